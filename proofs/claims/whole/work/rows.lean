section
-- ===== PART A: goes FIRST, ahead of the names: the tables' words, and 'selects' of the private methods out of them =====
/-- a private method of a class that the tables say can be made, by its rows of tables_1 -/
def lw_okq (q : MethodName × Nat) : Prop := (q.1.cls ≠ "java/lang/invoke/MethodHandle" ∧ q.1.cls ≠ "java/lang/invoke/VarHandle") ∧ Cond.instantiable q.1.cls q.2 ∈ tables_1 ∧ Cond.privateMethod q.1 ∈ tables_1 ∧ Cond.instanceMethod q.1 ∈ tables_1
theorem lw_p0 : lw_okq (⟨"java/lang/Throwable", "fillInStackTrace", "(I)Ljava/lang/Throwable;"⟩, 6) := ⟨⟨by decide +kernel, by decide +kernel⟩, List.mem_of_getElem? (i := 221) (by decide +kernel), List.mem_of_getElem? (i := 219) (by decide +kernel), List.mem_of_getElem? (i := 220) (by decide +kernel)⟩
theorem lw_p1 : lw_okq (⟨"Meeplehouse$Hall", "seatIfPossible", "(I)Z"⟩, 9) := ⟨⟨by decide +kernel, by decide +kernel⟩, List.mem_of_getElem? (i := 24) (by decide +kernel), List.mem_of_getElem? (i := 361) (by decide +kernel), List.mem_of_getElem? (i := 362) (by decide +kernel)⟩
theorem lw_p2 : lw_okq (⟨"Meeplehouse$Hall", "wasteAt", "(III)I"⟩, 9) := ⟨⟨by decide +kernel, by decide +kernel⟩, List.mem_of_getElem? (i := 24) (by decide +kernel), List.mem_of_getElem? (i := 369) (by decide +kernel), List.mem_of_getElem? (i := 370) (by decide +kernel)⟩
theorem lw_p3 : lw_okq (⟨"Meeplehouse$Hall", "seat", "(III)V"⟩, 9) := ⟨⟨by decide +kernel, by decide +kernel⟩, List.mem_of_getElem? (i := 24) (by decide +kernel), List.mem_of_getElem? (i := 380) (by decide +kernel), List.mem_of_getElem? (i := 381) (by decide +kernel)⟩
theorem lw_p4 : lw_okq (⟨"Meeplehouse$Hall", "seatWaiting", "()I"⟩, 9) := ⟨⟨by decide +kernel, by decide +kernel⟩, List.mem_of_getElem? (i := 24) (by decide +kernel), List.mem_of_getElem? (i := 403) (by decide +kernel), List.mem_of_getElem? (i := 404) (by decide +kernel)⟩
theorem lw_p5 : lw_okq (⟨"Meeplehouse$Hall", "wasteOfSet", "(II)I"⟩, 9) := ⟨⟨by decide +kernel, by decide +kernel⟩, List.mem_of_getElem? (i := 24) (by decide +kernel), List.mem_of_getElem? (i := 448) (by decide +kernel), List.mem_of_getElem? (i := 449) (by decide +kernel)⟩
theorem lw_p6 : lw_okq (⟨"Meeplehouse", "offeredTitles", "(I)I"⟩, 3) := ⟨⟨by decide +kernel, by decide +kernel⟩, List.mem_of_getElem? (i := 16) (by decide +kernel), List.mem_of_getElem? (i := 477) (by decide +kernel), List.mem_of_getElem? (i := 478) (by decide +kernel)⟩
theorem lw_p7 : lw_okq (⟨"Meeplehouse", "isOffered", "(II)Z"⟩, 3) := ⟨⟨by decide +kernel, by decide +kernel⟩, List.mem_of_getElem? (i := 16) (by decide +kernel), List.mem_of_getElem? (i := 481) (by decide +kernel), List.mem_of_getElem? (i := 482) (by decide +kernel)⟩
theorem lw_p8 : lw_okq (⟨"Meeplehouse$Shelf", "mayLend", "(II)Z"⟩, 11) := ⟨⟨by decide +kernel, by decide +kernel⟩, List.mem_of_getElem? (i := 76) (by decide +kernel), List.mem_of_getElem? (i := 506) (by decide +kernel), List.mem_of_getElem? (i := 507) (by decide +kernel)⟩
theorem lw_p9 : lw_okq (⟨"Meeplehouse$Shelf", "countAhead", "(II)I"⟩, 11) := ⟨⟨by decide +kernel, by decide +kernel⟩, List.mem_of_getElem? (i := 76) (by decide +kernel), List.mem_of_getElem? (i := 534) (by decide +kernel), List.mem_of_getElem? (i := 535) (by decide +kernel)⟩
theorem lw_p10 : lw_okq (⟨"Meeplehouse$Shelf", "lend", "(IIII)V"⟩, 11) := ⟨⟨by decide +kernel, by decide +kernel⟩, List.mem_of_getElem? (i := 76) (by decide +kernel), List.mem_of_getElem? (i := 549) (by decide +kernel), List.mem_of_getElem? (i := 550) (by decide +kernel)⟩
theorem lw_p11 : lw_okq (⟨"Meeplehouse$Shelf", "closeLoans", "(I)I"⟩, 11) := ⟨⟨by decide +kernel, by decide +kernel⟩, List.mem_of_getElem? (i := 76) (by decide +kernel), List.mem_of_getElem? (i := 569) (by decide +kernel), List.mem_of_getElem? (i := 570) (by decide +kernel)⟩
theorem lw_p12 : lw_okq (⟨"Meeplehouse", "playedBy", "(I)I"⟩, 3) := ⟨⟨by decide +kernel, by decide +kernel⟩, List.mem_of_getElem? (i := 16) (by decide +kernel), List.mem_of_getElem? (i := 619) (by decide +kernel), List.mem_of_getElem? (i := 620) (by decide +kernel)⟩
end
section
theorem lw_p13 : lw_okq (⟨"Meeplehouse", "holdingFor", "(I)I"⟩, 3) := ⟨⟨by decide +kernel, by decide +kernel⟩, List.mem_of_getElem? (i := 16) (by decide +kernel), List.mem_of_getElem? (i := 623) (by decide +kernel), List.mem_of_getElem? (i := 624) (by decide +kernel)⟩
theorem lw_p14 : lw_okq (⟨"Meeplehouse$Referee", "firstHolding", "(III)I"⟩, 5) := ⟨⟨by decide +kernel, by decide +kernel⟩, List.mem_of_getElem? (i := 121) (by decide +kernel), List.mem_of_getElem? (i := 642) (by decide +kernel), List.mem_of_getElem? (i := 643) (by decide +kernel)⟩
theorem lw_p15 : lw_okq (⟨"Meeplehouse$Referee", "parentOf", "(II)I"⟩, 5) := ⟨⟨by decide +kernel, by decide +kernel⟩, List.mem_of_getElem? (i := 121) (by decide +kernel), List.mem_of_getElem? (i := 646) (by decide +kernel), List.mem_of_getElem? (i := 647) (by decide +kernel)⟩
def lw_privs_1 : List (MethodName × Nat) := [(⟨"java/lang/Throwable", "fillInStackTrace", "(I)Ljava/lang/Throwable;"⟩, 6), (⟨"Meeplehouse$Hall", "seatIfPossible", "(I)Z"⟩, 9), (⟨"Meeplehouse$Hall", "wasteAt", "(III)I"⟩, 9), (⟨"Meeplehouse$Hall", "seat", "(III)V"⟩, 9), (⟨"Meeplehouse$Hall", "seatWaiting", "()I"⟩, 9), (⟨"Meeplehouse$Hall", "wasteOfSet", "(II)I"⟩, 9), (⟨"Meeplehouse", "offeredTitles", "(I)I"⟩, 3), (⟨"Meeplehouse", "isOffered", "(II)Z"⟩, 3), (⟨"Meeplehouse$Shelf", "mayLend", "(II)Z"⟩, 11), (⟨"Meeplehouse$Shelf", "countAhead", "(II)I"⟩, 11), (⟨"Meeplehouse$Shelf", "lend", "(IIII)V"⟩, 11), (⟨"Meeplehouse$Shelf", "closeLoans", "(I)I"⟩, 11), (⟨"Meeplehouse", "playedBy", "(I)I"⟩, 3), (⟨"Meeplehouse", "holdingFor", "(I)I"⟩, 3), (⟨"Meeplehouse$Referee", "firstHolding", "(III)I"⟩, 5), (⟨"Meeplehouse$Referee", "parentOf", "(II)I"⟩, 5)]
theorem lw_r1 : ∀ q ∈ lw_privs_1, lw_okq q := List.forall_mem_cons.mpr ⟨lw_p0, List.forall_mem_cons.mpr ⟨lw_p1, List.forall_mem_cons.mpr ⟨lw_p2, List.forall_mem_cons.mpr ⟨lw_p3, List.forall_mem_cons.mpr ⟨lw_p4, List.forall_mem_cons.mpr ⟨lw_p5, List.forall_mem_cons.mpr ⟨lw_p6, List.forall_mem_cons.mpr ⟨lw_p7, List.forall_mem_cons.mpr ⟨lw_p8, List.forall_mem_cons.mpr ⟨lw_p9, List.forall_mem_cons.mpr ⟨lw_p10, List.forall_mem_cons.mpr ⟨lw_p11, List.forall_mem_cons.mpr ⟨lw_p12, List.forall_mem_cons.mpr ⟨lw_p13, List.forall_mem_cons.mpr ⟨lw_p14, List.forall_mem_cons.mpr ⟨lw_p15, fun _ h => absurd h List.not_mem_nil⟩⟩⟩⟩⟩⟩⟩⟩⟩⟩⟩⟩⟩⟩⟩⟩
theorem lw_p16 : lw_okq (⟨"Meeplehouse$Referee", "decides", "(III)Z"⟩, 5) := ⟨⟨by decide +kernel, by decide +kernel⟩, List.mem_of_getElem? (i := 121) (by decide +kernel), List.mem_of_getElem? (i := 662) (by decide +kernel), List.mem_of_getElem? (i := 663) (by decide +kernel)⟩
theorem lw_p17 : lw_okq (⟨"Meeplehouse$Referee", "holdsAmong", "(IIII)Z"⟩, 5) := ⟨⟨by decide +kernel, by decide +kernel⟩, List.mem_of_getElem? (i := 121) (by decide +kernel), List.mem_of_getElem? (i := 666) (by decide +kernel), List.mem_of_getElem? (i := 667) (by decide +kernel)⟩
theorem lw_p18 : lw_okq (⟨"Meeplehouse$Referee", "levelOf", "(II)I"⟩, 5) := ⟨⟨by decide +kernel, by decide +kernel⟩, List.mem_of_getElem? (i := 121) (by decide +kernel), List.mem_of_getElem? (i := 681) (by decide +kernel), List.mem_of_getElem? (i := 682) (by decide +kernel)⟩
theorem lw_p19 : lw_okq (⟨"MeeplehouseModel", "isFine", "(I)Z"⟩, 33) := ⟨⟨by decide +kernel, by decide +kernel⟩, List.mem_of_getElem? (i := 686) (by decide +kernel), List.mem_of_getElem? (i := 803) (by decide +kernel), List.mem_of_getElem? (i := 804) (by decide +kernel)⟩
theorem lw_p20 : lw_okq (⟨"MeeplehouseModel", "isTitle", "(I)Z"⟩, 33) := ⟨⟨by decide +kernel, by decide +kernel⟩, List.mem_of_getElem? (i := 686) (by decide +kernel), List.mem_of_getElem? (i := 826) (by decide +kernel), List.mem_of_getElem? (i := 827) (by decide +kernel)⟩
theorem lw_p21 : lw_okq (⟨"MeeplehouseModel", "sits", "(I)Z"⟩, 33) := ⟨⟨by decide +kernel, by decide +kernel⟩, List.mem_of_getElem? (i := 686) (by decide +kernel), List.mem_of_getElem? (i := 838) (by decide +kernel), List.mem_of_getElem? (i := 839) (by decide +kernel)⟩
theorem lw_p22 : lw_okq (⟨"MeeplehouseModel", "finds", "(I)Z"⟩, 33) := ⟨⟨by decide +kernel, by decide +kernel⟩, List.mem_of_getElem? (i := 686) (by decide +kernel), List.mem_of_getElem? (i := 842) (by decide +kernel), List.mem_of_getElem? (i := 843) (by decide +kernel)⟩
theorem lw_p23 : lw_okq (⟨"MeeplehouseModel", "isGroup", "(I)Z"⟩, 33) := ⟨⟨by decide +kernel, by decide +kernel⟩, List.mem_of_getElem? (i := 686) (by decide +kernel), List.mem_of_getElem? (i := 850) (by decide +kernel), List.mem_of_getElem? (i := 851) (by decide +kernel)⟩
theorem lw_p24 : lw_okq (⟨"MeeplehouseModel", "wasteNow", "(I)I"⟩, 33) := ⟨⟨by decide +kernel, by decide +kernel⟩, List.mem_of_getElem? (i := 686) (by decide +kernel), List.mem_of_getElem? (i := 870) (by decide +kernel), List.mem_of_getElem? (i := 871) (by decide +kernel)⟩
theorem lw_p25 : lw_okq (⟨"MeeplehouseModel", "leftOf", "(I)I"⟩, 33) := ⟨⟨by decide +kernel, by decide +kernel⟩, List.mem_of_getElem? (i := 686) (by decide +kernel), List.mem_of_getElem? (i := 882) (by decide +kernel), List.mem_of_getElem? (i := 883) (by decide +kernel)⟩
theorem lw_p26 : lw_okq (⟨"MeeplehouseModel", "offersTo", "(I)I"⟩, 33) := ⟨⟨by decide +kernel, by decide +kernel⟩, List.mem_of_getElem? (i := 686) (by decide +kernel), List.mem_of_getElem? (i := 890) (by decide +kernel), List.mem_of_getElem? (i := 891) (by decide +kernel)⟩
end
section
theorem lw_p27 : lw_okq (⟨"MeeplehouseModel", "isOffered", "(II)Z"⟩, 33) := ⟨⟨by decide +kernel, by decide +kernel⟩, List.mem_of_getElem? (i := 686) (by decide +kernel), List.mem_of_getElem? (i := 894) (by decide +kernel), List.mem_of_getElem? (i := 895) (by decide +kernel)⟩
theorem lw_p28 : lw_okq (⟨"MeeplehouseModel", "bestCopy", "(I)I"⟩, 33) := ⟨⟨by decide +kernel, by decide +kernel⟩, List.mem_of_getElem? (i := 686) (by decide +kernel), List.mem_of_getElem? (i := 898) (by decide +kernel), List.mem_of_getElem? (i := 899) (by decide +kernel)⟩
theorem lw_p29 : lw_okq (⟨"MeeplehouseModel", "lendersOf", "(I)I"⟩, 33) := ⟨⟨by decide +kernel, by decide +kernel⟩, List.mem_of_getElem? (i := 686) (by decide +kernel), List.mem_of_getElem? (i := 902) (by decide +kernel), List.mem_of_getElem? (i := 903) (by decide +kernel)⟩
theorem lw_p30 : lw_okq (⟨"MeeplehouseModel", "makes", "(I)I"⟩, 33) := ⟨⟨by decide +kernel, by decide +kernel⟩, List.mem_of_getElem? (i := 686) (by decide +kernel), List.mem_of_getElem? (i := 906) (by decide +kernel), List.mem_of_getElem? (i := 907) (by decide +kernel)⟩
theorem lw_p31 : lw_okq (⟨"MeeplehouseModel", "ahead", "(II)I"⟩, 33) := ⟨⟨by decide +kernel, by decide +kernel⟩, List.mem_of_getElem? (i := 686) (by decide +kernel), List.mem_of_getElem? (i := 917) (by decide +kernel), List.mem_of_getElem? (i := 918) (by decide +kernel)⟩
def lw_privs_2 : List (MethodName × Nat) := [(⟨"Meeplehouse$Referee", "decides", "(III)Z"⟩, 5), (⟨"Meeplehouse$Referee", "holdsAmong", "(IIII)Z"⟩, 5), (⟨"Meeplehouse$Referee", "levelOf", "(II)I"⟩, 5), (⟨"MeeplehouseModel", "isFine", "(I)Z"⟩, 33), (⟨"MeeplehouseModel", "isTitle", "(I)Z"⟩, 33), (⟨"MeeplehouseModel", "sits", "(I)Z"⟩, 33), (⟨"MeeplehouseModel", "finds", "(I)Z"⟩, 33), (⟨"MeeplehouseModel", "isGroup", "(I)Z"⟩, 33), (⟨"MeeplehouseModel", "wasteNow", "(I)I"⟩, 33), (⟨"MeeplehouseModel", "leftOf", "(I)I"⟩, 33), (⟨"MeeplehouseModel", "offersTo", "(I)I"⟩, 33), (⟨"MeeplehouseModel", "isOffered", "(II)Z"⟩, 33), (⟨"MeeplehouseModel", "bestCopy", "(I)I"⟩, 33), (⟨"MeeplehouseModel", "lendersOf", "(I)I"⟩, 33), (⟨"MeeplehouseModel", "makes", "(I)I"⟩, 33), (⟨"MeeplehouseModel", "ahead", "(II)I"⟩, 33)]
theorem lw_r2 : ∀ q ∈ lw_privs_2, lw_okq q := List.forall_mem_cons.mpr ⟨lw_p16, List.forall_mem_cons.mpr ⟨lw_p17, List.forall_mem_cons.mpr ⟨lw_p18, List.forall_mem_cons.mpr ⟨lw_p19, List.forall_mem_cons.mpr ⟨lw_p20, List.forall_mem_cons.mpr ⟨lw_p21, List.forall_mem_cons.mpr ⟨lw_p22, List.forall_mem_cons.mpr ⟨lw_p23, List.forall_mem_cons.mpr ⟨lw_p24, List.forall_mem_cons.mpr ⟨lw_p25, List.forall_mem_cons.mpr ⟨lw_p26, List.forall_mem_cons.mpr ⟨lw_p27, List.forall_mem_cons.mpr ⟨lw_p28, List.forall_mem_cons.mpr ⟨lw_p29, List.forall_mem_cons.mpr ⟨lw_p30, List.forall_mem_cons.mpr ⟨lw_p31, fun _ h => absurd h List.not_mem_nil⟩⟩⟩⟩⟩⟩⟩⟩⟩⟩⟩⟩⟩⟩⟩⟩
theorem lw_p32 : lw_okq (⟨"MeeplehouseModel", "lends", "(I)V"⟩, 33) := ⟨⟨by decide +kernel, by decide +kernel⟩, List.mem_of_getElem? (i := 686) (by decide +kernel), List.mem_of_getElem? (i := 925) (by decide +kernel), List.mem_of_getElem? (i := 926) (by decide +kernel)⟩
theorem lw_p33 : lw_okq (⟨"MeeplehouseModel", "lendsTo", "(II)Z"⟩, 33) := ⟨⟨by decide +kernel, by decide +kernel⟩, List.mem_of_getElem? (i := 686) (by decide +kernel), List.mem_of_getElem? (i := 929) (by decide +kernel), List.mem_of_getElem? (i := 930) (by decide +kernel)⟩
theorem lw_p34 : lw_okq (⟨"MeeplehouseModel", "closes", "(I)I"⟩, 33) := ⟨⟨by decide +kernel, by decide +kernel⟩, List.mem_of_getElem? (i := 686) (by decide +kernel), List.mem_of_getElem? (i := 940) (by decide +kernel), List.mem_of_getElem? (i := 941) (by decide +kernel)⟩
theorem lw_p35 : lw_okq (⟨"MeeplehouseModel", "isCopy", "(I)Z"⟩, 33) := ⟨⟨by decide +kernel, by decide +kernel⟩, List.mem_of_getElem? (i := 686) (by decide +kernel), List.mem_of_getElem? (i := 948) (by decide +kernel), List.mem_of_getElem? (i := 949) (by decide +kernel)⟩
theorem lw_p36 : lw_okq (⟨"MeeplehouseModel", "asks", "(I)Z"⟩, 33) := ⟨⟨by decide +kernel, by decide +kernel⟩, List.mem_of_getElem? (i := 686) (by decide +kernel), List.mem_of_getElem? (i := 972) (by decide +kernel), List.mem_of_getElem? (i := 973) (by decide +kernel)⟩
theorem lw_p37 : lw_okq (⟨"MeeplehouseModel", "rulingFor", "(I)I"⟩, 33) := ⟨⟨by decide +kernel, by decide +kernel⟩, List.mem_of_getElem? (i := 686) (by decide +kernel), List.mem_of_getElem? (i := 976) (by decide +kernel), List.mem_of_getElem? (i := 977) (by decide +kernel)⟩
theorem lw_p38 : lw_okq (⟨"MeeplehouseModel", "firstThat", "(III)I"⟩, 33) := ⟨⟨by decide +kernel, by decide +kernel⟩, List.mem_of_getElem? (i := 686) (by decide +kernel), List.mem_of_getElem? (i := 980) (by decide +kernel), List.mem_of_getElem? (i := 981) (by decide +kernel)⟩
theorem lw_p39 : lw_okq (⟨"MeeplehouseModel", "holds", "(II)Z"⟩, 33) := ⟨⟨by decide +kernel, by decide +kernel⟩, List.mem_of_getElem? (i := 686) (by decide +kernel), List.mem_of_getElem? (i := 984) (by decide +kernel), List.mem_of_getElem? (i := 985) (by decide +kernel)⟩
theorem lw_p40 : lw_okq (⟨"MeeplehouseModel", "lentTo", "(I)I"⟩, 33) := ⟨⟨by decide +kernel, by decide +kernel⟩, List.mem_of_getElem? (i := 686) (by decide +kernel), List.mem_of_getElem? (i := 988) (by decide +kernel), List.mem_of_getElem? (i := 989) (by decide +kernel)⟩
end
section
def lw_privs_3 : List (MethodName × Nat) := [(⟨"MeeplehouseModel", "lends", "(I)V"⟩, 33), (⟨"MeeplehouseModel", "lendsTo", "(II)Z"⟩, 33), (⟨"MeeplehouseModel", "closes", "(I)I"⟩, 33), (⟨"MeeplehouseModel", "isCopy", "(I)Z"⟩, 33), (⟨"MeeplehouseModel", "asks", "(I)Z"⟩, 33), (⟨"MeeplehouseModel", "rulingFor", "(I)I"⟩, 33), (⟨"MeeplehouseModel", "firstThat", "(III)I"⟩, 33), (⟨"MeeplehouseModel", "holds", "(II)Z"⟩, 33), (⟨"MeeplehouseModel", "lentTo", "(I)I"⟩, 33)]
theorem lw_r3 : ∀ q ∈ lw_privs_3, lw_okq q := List.forall_mem_cons.mpr ⟨lw_p32, List.forall_mem_cons.mpr ⟨lw_p33, List.forall_mem_cons.mpr ⟨lw_p34, List.forall_mem_cons.mpr ⟨lw_p35, List.forall_mem_cons.mpr ⟨lw_p36, List.forall_mem_cons.mpr ⟨lw_p37, List.forall_mem_cons.mpr ⟨lw_p38, List.forall_mem_cons.mpr ⟨lw_p39, List.forall_mem_cons.mpr ⟨lw_p40, fun _ h => absurd h List.not_mem_nil⟩⟩⟩⟩⟩⟩⟩⟩⟩
def lw_privs : List (MethodName × Nat) := lw_privs_1 ++ (lw_privs_2 ++ (lw_privs_3))
def lw_tbl : List Cond := k2_sels lw_privs ++ tables_1
theorem lw_privs_ok : ∀ q ∈ lw_privs, lw_okq q := by
  show ∀ q ∈ lw_privs_1 ++ (lw_privs_2 ++ (lw_privs_3)), lw_okq q
  exact List.forall_mem_append.mpr ⟨lw_r1, List.forall_mem_append.mpr ⟨lw_r2, lw_r3⟩⟩
end
section
/-! ===== BEGIN words of one list among another's, by their places ===== -/
theorem goodIn_r {big : List Cond} (ws : List Cond) (ps : List Nat) (hp : ws = ps.filterMap (fun i => big[i]?)) (h : ws.all goodWord = true) : GoodIn big ws := by
  intro w hw
  have h1 := List.all_eq_true.mp h w hw
  rw [hp] at hw
  obtain ⟨i, -, hi⟩ := List.mem_filterMap.mp hw
  have hm : w ∈ big := by first | exact List.mem_of_getElem? hi | exact List.getElem?_mem hi
  exact ⟨hm, good_of_word h1⟩
theorem goodIn_app {big a b : List Cond} (ha : GoodIn big a) (hb : GoodIn big b) : GoodIn big (a ++ b) := fun w h => (List.mem_append.mp h).elim (ha w) (hb w)
theorem goodIn_ca {big a b : List Cond} {c : Cond} (ha : GoodIn big (c :: a)) (hb : GoodIn big b) : GoodIn big (c :: (a ++ b)) := fun w h => (List.mem_cons.mp h).elim (fun e => ha w (List.mem_cons.mpr (Or.inl e))) (fun h => (List.mem_append.mp h).elim (fun h => ha w (List.mem_cons.mpr (Or.inr h))) (hb w))
theorem goodIn_sub {big ws : List Cond} (hm : ∀ w ∈ ws, w ∈ big) (h : ws.all goodWord = true) : GoodIn big ws := fun w hw => ⟨hm w hw, good_of_word (List.all_eq_true.mp h w hw)⟩
/-! ===== END ===== -/

/-! ===== BEGIN exceptions that leave a method, and their catching by the caller (launches without stack traces) ===== -/
section VXA
/-! The laws vx_back, vx_callV, vx_callS, vx_callSW, vx_throw0, vx_throwS follow proofs of the library, with one case more: JvmDerived/Free/Laws.lean (Back.of_free), Shelf42/LK1.lean (callV, callS), Shelf/KitTraced.lean (throwNew0V, throwNewS). -/
/-- where a method has thrown q: the class by its name, the cell, what was written, the world -/
def vx_T (XC : String → State → State → Prop) (st : State) (q : Addr) (t : State) (mc ms : Nat) (free : Addr → Prop) : Prop :=
  ∃ (E : String) (ce : Cell) (L : List Loc), XC E st t ∧ t.heap[q]? = some ce ∧ ce.vm = .none ∧ st.vm.findClass E = some ce.cls ∧ st.WarmedH t.vm ∧ st.sameButNew ({ t with vm := st.vm } : State) L mc ms ∧ ∀ z ∈ L, free z.base
def vx_Q (Qc : Array Value → State → Outcome → State → Prop) (XC : String → State → State → Prop) (mc ms : Nat) (free : Addr → Prop) : Array Value → State → Outcome → State → Prop := fun a st o t =>
  (Qc a st o t ∧ ∃ L, FrameEnd st o t L mc ms ∧ ∀ q ∈ L, free q.base) ∨ ∃ q, o = .threw q ∧ vx_T XC st q t mc ms free
/-- a callee that returns or throws -/
def vx_Met (l : Launch) (y : MethodName) (ws : List Cond) (rm : Room) (Pc : Array Value → State → Prop) (Qc : Array Value → State → Outcome → State → Prop) (XC : String → State → State → Prop) (mc ms : Nat) (free : Addr → Prop) : Prop :=
  MetFree l y (headSpec ws rm) Pc (fun _ _ _ _ _ => True) (vx_Q Qc XC mc ms free)
def vx_Post (XC : String → State → State → Prop) (mc ms : Nat) (free : Addr → Prop) : Pt → Array Value → Addr → Pt → Prop := fun A a q B =>
  ∃ (g : JFrame) (mk : MethodId) (t : State) (L : List Loc) (E : String) (ce : Cell), B.U.heap = t.heap ∧ B.U.vm = t.vm ∧ XC E (A.U.calling g mk a) t ∧ t.heap[q]? = some ce ∧ ce.vm = .none ∧ A.U.vm.findClass E = some ce.cls ∧ B.locs = A.locs ++ L ∧ (∀ z ∈ L, free z.base) ∧ B.cells = A.cells + mc ∧ B.slots = A.slots + ms
def vx_Back (l : Launch) (R : Room) (p : Program) (e : Env) (below : List Frame) (s : State) (sargs : Array Value) (y : MethodName) (len W9 : Nat)
    (Pre : Pt → Array Value → Prop) (Post : Pt → Array Value → Option Value → Pt → Prop) (PostX : Pt → Array Value → Addr → Pt → Prop) : Prop :=
  ∀ (m : MethodId) (meth : Method) (c : Code) (A : Pt) (g : JFrame) (ig : Instr) (mk : MethodId) (a : Array Value),
    Stand p l e R s m sargs below meth c A.U A.locs A.cells A.slots → g.method = m → g.locals.size = c.maxLocals → decode c.code g.pc = .ok (ig, len) →
    2 * g.monitorRoom + (g.stack.map fun v => v.category).sum ≤ W9 → A.U.methodNamed? y = some mk → Pre A a →
    (∃ (v : Option Value) (B : Pt), Stand p l e R s m sargs below meth c B.U B.locs B.cells B.slots ∧ Post A a v B ∧
      Steps p.tables e below (doInvoke e (A.U.setTop g) [] mk a).1 (B.U.setTop { g with pc := g.pc + len, stack := v.toList ++ g.stack })) ∨
    (∃ (q : Addr) (B : Pt), Stand p l e R s m sargs below meth c B.U B.locs B.cells B.slots ∧ PostX A a q B ∧
      Steps p.tables e below (doInvoke e (A.U.setTop g) [] mk a).1 ((B.U.setTop g).pushFrame (.throwing q)))
section Payer
variable {l : Launch} {R : Room} {p : Program} {e : Env} {below : List Frame} {s : State} {sargs : Array Value} {y : MethodName} {len W9 : Nat}
theorem vx_back {ws : List Cond} {rm : Room} {Pc : Array Value → State → Prop} {Qc : Array Value → State → Outcome → State → Prop} {XC : String → State → State → Prop} {mc ms : Nat} {free : Addr → Prop} {bytes : ByteArray} {maxL : Nat} {ret : Option FieldType}
    (hM : vx_Met l y ws rm Pc Qc XC mc ms free) (hblind : FrameBlind Pc) (hrc : rm.cells = mc) (hrs : rm.slots = ms)
    (hframes : rm.frames + 1 ≤ R.frames) (hlocals : W9 + (maxL + 11) + rm.locals ≤ R.locals)
    (hws : ∀ w ∈ ws, ∀ a' U, s.WarmedH U.vm → w.before a' U = true) (hcode : Cond.code y bytes maxL ret ∈ ws) (hinit : ∀ a' U, s.WarmedH U.vm → (Cond.initialized y.cls).before a' U = true) :
    vx_Back l R p e below s sargs y len W9 (PreOf R mc ms Pc) (PostOf Qc mc ms free) (vx_Post XC mc ms free) := by
  intro m meth c A g ig mk a X hg hsize hdg hW hn hp
  have h1 : (headSpec ws rm).pre.before a A.U = true := atoms_intro fun w hw => hws w hw _ _ X.warmed
  have h2 : (Cond.code y bytes maxL ret).before a A.U = true := hws _ hcode _ _ X.warmed
  have h3 : (Cond.initialized y.cls).before a A.U = true := hinit _ _ X.warmed
  have h4 : A.cells + (headSpec ws rm).room.cells ≤ R.cells := by rw [show (headSpec ws rm).room.cells = mc from hrc]; exact hp.1
  have h5 : A.slots + (headSpec ws rm).room.slots ≤ R.slots := by rw [show (headSpec ws rm).room.slots = ms from hrs]; exact hp.2.1
  have hPc : Pc a (A.U.calling g mk a) := hblind _ _ _ _ hp.2.2
  obtain ⟨U, Ls, c0, s0⟩ := A
  dsimp only [Pt.U, Pt.locs, Pt.cells, Pt.slots] at h1 h2 h3 h4 h5 X hn hPc ⊢
  obtain ⟨methY, cY, hmY, hcY, -, hlY, -, -, -, -⟩ := Cond.code_spec hn h2
  obtain ⟨kY, hkY, -⟩ := className_of_methodNamed hn
  have hinitY : kY.init = .initialized := Cond.initialized_spec (findClass_of_methodNamed hn) hkY h3
  have h : At U g.method c below := by rw [hg]; exact X.here
  have hlocals9 : W9 + (maxL + 11) + (headSpec ws rm).room.locals ≤ R.locals := hlocals
  have happ : (headSpec ws rm).appliesLoose y e.platform (U.calling g mk a) = true :=
    Spec.appliesLoose_calling (g := g) h hdg hn hkY hinitY
      (X.room_calling (g := g) (R' := (headSpec ws rm).room) hsize hmY hcY hframes (by rw [hlY]; omega) h4 h5) h1
  obtain ⟨mid, hmid⟩ := h.above
  have hfr : (U.setTop g).frames = (.java g :: mid) ++ below := by rw [State.frames_setTop' g h.top, hmid]; rfl
  obtain ⟨o, s₂, hsteps, -, hend, hq⟩ := Steps.callFree hM p X.admits X.cas X.clock (acts := []) hfr happ hPc trivial
  have hq' : vx_Q Qc XC mc ms free a (U.calling g mk a) o s₂ := hq
  rw [State.frames_setTop' g h.top] at hend
  obtain ⟨g₀, hg0⟩ := Option.isSome_iff_exists.mp h.top
  obtain ⟨r, hr⟩ := State.topJava?_eq_some.mp hg0
  have hr' : (({ U with heap := s₂.heap, slotsUsed := s₂.slotsUsed } : State).setVm s₂.vm).frames = .java g₀ :: r := hr
  rcases hq' with ⟨hqc, L, hfe, hL⟩ | ⟨q, rfl, E, ce, L, hx, hce, hcv, hcl, hW₂, hsm, hL⟩
  · obtain ⟨⟨v, rfl⟩, hW₂, e2, q2, q3, q4, q5, q6⟩ := id hfe
    have e3 : s₂ = ({ (U.calling g mk a).setFrames s₂.frames with heap := s₂.heap, slotsUsed := s₂.slotsUsed } : State).setVm s₂.vm := by
      have : s₂ = ({ s₂ with vm := (U.calling g mk a).vm } : State).setVm s₂.vm := rfl
      rw [e2] at this
      exact this
    obtain ⟨c₂, i₂, len₂, hc₂, hd₂, hf₂⟩ := hend
    have hW' : U.WarmedH s₂.vm := hW₂
    have hcc : c₂ = c := by
      have h1 : s₂.code? g.method = U.code? g.method := by
        rw [State.code?_eq, State.code?_eq, hW'.alike.method?]
      exact Option.some.inj (hc₂.symm.trans (h1.trans h.code))
    subst hcc
    have hlen : len₂ = len := by rw [hdg] at hd₂; cases hd₂; rfl
    subst hlen
    have hs₂ : s₂ = (({ U with heap := s₂.heap, slotsUsed := s₂.slotsUsed } : State).setVm s₂.vm).setTop { g with pc := g.pc + len₂, stack := v.toList ++ g.stack } := by
      refine e3.trans ?_
      rw [hf₂, State.calling_eq h.top, State.setFrames_setFrames, State.setTop_of_frames _ hr', hr]
      rfl
    have hsame : U.sameButNew ({ U with heap := s₂.heap, slotsUsed := s₂.slotsUsed } : State) L mc ms := by
      refine ⟨?_, q2, q3, q4, q5, q6⟩
      obtain ⟨t, ht, -⟩ := State.frames_cons hr
      show ({ U with heap := s₂.heap, slotsUsed := s₂.slotsUsed } : State) = { U.setFrames U.frames with heap := s₂.heap, slotsUsed := s₂.slotsUsed }
      rw [State.setFrames_self ht]
    subst hg
    refine Or.inl ⟨v, ⟨(({ U with heap := s₂.heap, slotsUsed := s₂.slotsUsed } : State).setVm s₂.vm), Ls ++ L, c0 + mc, s0 + ms⟩,
      ⟨X.admits, X.cas, X.clock, X.frames, X.room, X.hears, X.method, X.code, (X.here.setHeapUsed s₂.heap s₂.slotsUsed).setVm hW'.alike, X.tail, State.WarmedH.trans X.warmed hW', X.limits, X.bytes, X.same.trans (hsame.setVm s.vm)⟩,
      ⟨g, mk, s₂, L, rfl, rfl, hqc, rfl, hL, rfl, rfl⟩, ?_⟩
    show Steps p.tables e below _ ((({ U with heap := s₂.heap, slotsUsed := s₂.slotsUsed } : State).setVm s₂.vm).setTop { g with pc := g.pc + len₂, stack := v.toList ++ g.stack })
    rw [← hs₂]
    exact hsteps
  · obtain ⟨e2, q2, q3, q4, q5, q6⟩ := id hsm
    have e3 : s₂ = ({ (U.calling g mk a).setFrames s₂.frames with heap := s₂.heap, slotsUsed := s₂.slotsUsed } : State).setVm s₂.vm := by
      have : s₂ = ({ s₂ with vm := (U.calling g mk a).vm } : State).setVm s₂.vm := rfl
      rw [e2] at this
      exact this
    have hf₂ : s₂.frames = .throwing q :: .java g :: U.frames.tail := hend
    have hW' : U.WarmedH s₂.vm := hW₂
    have hs₂ : s₂ = ((({ U with heap := s₂.heap, slotsUsed := s₂.slotsUsed } : State).setVm s₂.vm).setTop g).pushFrame (.throwing q) := by
      refine e3.trans ?_
      rw [hf₂, State.calling_eq h.top, State.setFrames_setFrames, State.pushFrame, State.frames_setTop _ hr', State.setTop_of_frames _ hr', State.setFrames_setFrames, hr]
      rfl
    have hsame : U.sameButNew ({ U with heap := s₂.heap, slotsUsed := s₂.slotsUsed } : State) L mc ms := by
      refine ⟨?_, q2, q3, q4, q5, q6⟩
      obtain ⟨t, ht, -⟩ := State.frames_cons hr
      show ({ U with heap := s₂.heap, slotsUsed := s₂.slotsUsed } : State) = { U.setFrames U.frames with heap := s₂.heap, slotsUsed := s₂.slotsUsed }
      rw [State.setFrames_self ht]
    subst hg
    refine Or.inr ⟨q, ⟨(({ U with heap := s₂.heap, slotsUsed := s₂.slotsUsed } : State).setVm s₂.vm), Ls ++ L, c0 + mc, s0 + ms⟩,
      ⟨X.admits, X.cas, X.clock, X.frames, X.room, X.hears, X.method, X.code, (X.here.setHeapUsed s₂.heap s₂.slotsUsed).setVm hW'.alike, X.tail, State.WarmedH.trans X.warmed hW', X.limits, X.bytes, X.same.trans (hsame.setVm s.vm)⟩,
      ⟨g, mk, s₂, L, E, ce, rfl, rfl, hx, hce, hcv, hcl, rfl, hL, rfl, rfl⟩, ?_⟩
    show Steps p.tables e below _ (((({ U with heap := s₂.heap, slotsUsed := s₂.slotsUsed } : State).setVm s₂.vm).setTop g).pushFrame (.throwing q))
    rw [← hs₂]
    exact hsteps
end Payer
section Calls
variable {p : Program} {l : Launch} {e : Env} {R : Room} {s : State} {m : MethodId} {args : Array Value} {below : List Frame} {meth : Method} {c : Code} {T : State} {locs : List Loc} {cells slots : Nat}
theorem vx_callV (X : Stand p l e R s m args below meth c T locs cells slots) (hexec : p.tables.exec = Jvm.exec) {own C : String} {index : Nat} {y : MethodName} {bytes : ByteArray} {maxL : Nat} {ret : Option FieldType}
    (hown : s.vm.findClass own = some m.cls) (hlink : (Cond.methodLink own index y).before args s = true) (hinst : (Cond.instanceMethod y).before args s = true) (hsel : (Cond.selects C y y).before args s = true)
    (hcode : (Cond.code y bytes maxL ret).before args s = true) (hy : y.cls ≠ "java/lang/invoke/MethodHandle" ∧ y.cls ≠ "java/lang/invoke/VarHandle")
    {W9 : Nat} {Pre : Pt → Array Value → Prop} {Post : Pt → Array Value → Option Value → Pt → Prop} {PostX : Pt → Array Value → Addr → Pt → Prop} (hK : vx_Back l R p e below s args y 3 W9 Pre Post PostX)
    {b : Addr} {cellB : Cell} (hcell : T.heap[b]? = some cellB) (hobj : cellB.vm.isStatics = false) (hcls : s.vm.findClass C = some cellB.cls)
    {g : JFrame} (hg : g.method = m) (hsize : g.locals.size = c.maxLocals) {argsL rest : List Value} (hlen : ∀ sig, parseMethodDescriptor y.desc = some sig → argsL.length = sig.parameters.length)
    (hstack : g.stack = argsL.reverse ++ .ref b :: rest) (hW : 2 * g.monitorRoom + (rest.map fun v => v.category).sum ≤ W9) (hdg : decode c.code g.pc = .ok (.invokevirtual index, 3))
    (hpre : ∀ vm₁, s.WarmedH vm₁ → Pre ⟨T.setVm vm₁, locs, cells, slots⟩ (Value.ref b :: argsL).toArray) :
    (∃ (v : Option Value) (vm₁ : Vm) (B : Pt), s.WarmedH vm₁ ∧ Stand p l e R s m args below meth c B.U B.locs B.cells B.slots ∧ Post ⟨T.setVm vm₁, locs, cells, slots⟩ (Value.ref b :: argsL).toArray v B ∧
      ∀ target, Steps p.tables e below (B.U.setTop { g with pc := g.pc + 3, stack := v.toList ++ rest }) target → Steps p.tables e below (T.setTop g) target) ∨
    (∃ (q : Addr) (vm₁ : Vm) (B : Pt), s.WarmedH vm₁ ∧ Stand p l e R s m args below meth c B.U B.locs B.cells B.slots ∧ PostX ⟨T.setVm vm₁, locs, cells, slots⟩ (Value.ref b :: argsL).toArray q B ∧
      Steps p.tables e below (T.setTop g) ((B.U.setTop { g with stack := rest }).pushFrame (.throwing q))) := by
  obtain ⟨mk, methM, hnamed, hmethM, hstM, habM⟩ := Cond.instanceMethod_spec hinst
  obtain ⟨methM', cM, hmethM', -, -, -, -, -, -, hsigM⟩ := Cond.code_spec hnamed hcode
  cases hmethM.symm.trans hmethM'
  obtain ⟨c2, r2, m2, q1, q2, q3, q4, kP, hkP, hkPi⟩ := Cond.selects_spec hsel
  cases hcls.symm.trans q1
  cases (State.methodFound?_of_named hnamed hy).symm.trans q2
  cases hnamed.symm.trans q3
  have hselP : selectMethod e.platform s.vm cellB.cls mk = .method mk := by rw [Launch.admits_selectMethod X.admits]; exact q4
  obtain ⟨vm₁, X₁, hstep₁⟩ := X.invokevirtual hexec hown hlink hnamed hmethM hstM hkP hkPi hy (a := b) (cell := cellB) hcell
    (fun z h => by rw [h] at hobj; cases hobj) hselP hmethM habM hkP hkPi (g := g) hg (argsL := argsL) (rest := rest) (hlen _ hsigM) hstack hdg
  rcases hK m meth c ⟨T.setVm vm₁, locs, cells, slots⟩ { g with stack := rest } (.invokevirtual index) mk (Value.ref b :: argsL).toArray X₁ hg hsize hdg hW (X₁.named hnamed) (hpre vm₁ X₁.warmed) with ⟨v, B, X', hpost, hsteps⟩ | ⟨q, B, X', hpost, hsteps⟩
  · exact Or.inl ⟨v, vm₁, B, X₁.warmed, X', hpost, fun target h => hstep₁ _ fun acts => by rw [doInvoke_state]; exact hsteps.trans h⟩
  · exact Or.inr ⟨q, vm₁, B, X₁.warmed, X', hpost, hstep₁ _ fun acts => by rw [doInvoke_state]; exact hsteps⟩
theorem vx_callS (X : Stand p l e R s m args below meth c T locs cells slots) (hexec : p.tables.exec = Jvm.exec) {own : String} {index : Nat} {y : MethodName} {bytes : ByteArray} {maxL : Nat} {ret : Option FieldType}
    (hown : s.vm.findClass own = some m.cls) (hlink : (Cond.methodLink own index y).before args s = true) (hstat : (Cond.static y).before args s = true) (hinit : (Cond.initialized y.cls).before args s = true)
    (hcode : (Cond.code y bytes maxL ret).before args s = true) (hy : y.cls ≠ "java/lang/invoke/MethodHandle" ∧ y.cls ≠ "java/lang/invoke/VarHandle")
    {W9 : Nat} {Pre : Pt → Array Value → Prop} {Post : Pt → Array Value → Option Value → Pt → Prop} {PostX : Pt → Array Value → Addr → Pt → Prop} (hK : vx_Back l R p e below s args y 3 W9 Pre Post PostX)
    {g : JFrame} (hg : g.method = m) (hsize : g.locals.size = c.maxLocals) {argsL rest : List Value} (hlen : ∀ sig, parseMethodDescriptor y.desc = some sig → argsL.length = sig.parameters.length)
    (hstack : g.stack = argsL.reverse ++ rest) (hW : 2 * g.monitorRoom + (rest.map fun v => v.category).sum ≤ W9) (hdg : decode c.code g.pc = .ok (.invokestatic index, 3))
    (hpre : ∀ vm₁, s.WarmedH vm₁ → Pre ⟨T.setVm vm₁, locs, cells, slots⟩ argsL.toArray) :
    (∃ (v : Option Value) (vm₁ : Vm) (B : Pt), s.WarmedH vm₁ ∧ Stand p l e R s m args below meth c B.U B.locs B.cells B.slots ∧ Post ⟨T.setVm vm₁, locs, cells, slots⟩ argsL.toArray v B ∧
      ∀ target, Steps p.tables e below (B.U.setTop { g with pc := g.pc + 3, stack := v.toList ++ rest }) target → Steps p.tables e below (T.setTop g) target) ∨
    (∃ (q : Addr) (vm₁ : Vm) (B : Pt), s.WarmedH vm₁ ∧ Stand p l e R s m args below meth c B.U B.locs B.cells B.slots ∧ PostX ⟨T.setVm vm₁, locs, cells, slots⟩ argsL.toArray q B ∧
      Steps p.tables e below (T.setTop g) ((B.U.setTop { g with stack := rest }).pushFrame (.throwing q))) := by
  obtain ⟨mk, hnamed⟩ := Cond.code_named hcode
  obtain ⟨methM, cM, hmethM, -, -, -, -, -, -, hsigM⟩ := Cond.code_spec hnamed hcode
  have hstatic : methM.isStatic = true := Cond.static_spec hnamed hmethM hstat
  obtain ⟨kP, hkP, -⟩ := className_of_methodNamed hnamed
  have hinitP : kP.init = .initialized := Cond.initialized_spec (findClass_of_methodNamed hnamed) hkP hinit
  obtain ⟨vm₁, X₁, hstep₁⟩ := X.invokestatic hexec hown hlink hnamed hmethM hstatic hkP hinitP hy (g := g) hg (argsL := argsL) (rest := rest) (hlen _ hsigM) hstack hdg
  rcases hK m meth c ⟨T.setVm vm₁, locs, cells, slots⟩ { g with stack := rest } (.invokestatic index) mk argsL.toArray X₁ hg hsize hdg hW (X₁.named hnamed) (hpre vm₁ X₁.warmed) with ⟨v, B, X', hpost, hsteps⟩ | ⟨q, B, X', hpost, hsteps⟩
  · exact Or.inl ⟨v, vm₁, B, X₁.warmed, X', hpost, fun target h => hstep₁ _ fun acts => by rw [doInvoke_state]; exact hsteps.trans h⟩
  · exact Or.inr ⟨q, vm₁, B, X₁.warmed, X', hpost, hstep₁ _ fun acts => by rw [doInvoke_state]; exact hsteps⟩
end Calls
theorem vx_cls {s : State} {T : State} {vm₁ : Vm} {E : String} {k : ClassId} (hW : s.WarmedH vm₁) (h : (T.setVm vm₁).vm.findClass E = some k) : s.vm.findClass E = some k := by
  have h1 : vm₁.findClass E = some k := h
  rw [hW.alike.findClass] at h1
  exact h1
/-- the method's frame g, with q thrown over it -/
def vx_W (p : Program) (l : Launch) (e : Env) (R : Room) (s : State) (m : MethodId) (args : Array Value) (below : List Frame) (meth : Method) (c : Code) (H : Heap) (locs : List Loc) (cells slots : Nat) (Q : State → Prop) (g : JFrame) (q : Addr) : Prop :=
  ∀ T : State, T.heap = H → Stand p l e R s m args below meth c T locs cells slots → ∃ t, Steps p.tables e below ((T.setTop g).pushFrame (.throwing q)) t ∧ Q t
def vx_Run (p : Program) (l : Launch) (e : Env) (R : Room) (s : State) (m : MethodId) (args : Array Value) (below : List Frame) (meth : Method) (c : Code) (H : Heap) (locs : List Loc) (cells slots mc ms : Nat) (g : JFrame) (rest : List Value) (Qa : State → Outcome → State → Prop) (XC : String → State → State → Prop) (free : Addr → Prop) : Prop :=
  ∀ T : State, T.heap = H → Stand p l e R s m args below meth c T locs cells slots →
    (∃ (v : Option Value) (st₀ t T' : State) (L : List Loc), st₀.heap = H ∧ Stand p l e R s m args below meth c T' (locs ++ L) (cells + mc) (slots + ms) ∧ (∀ q ∈ L, free q.base) ∧ T'.heap = t.heap ∧ T'.vm = t.vm ∧ Qa st₀ (.returned v) t ∧
      Goes p e below T g T' { g with pc := g.pc + 3, stack := v.toList ++ rest }) ∨
    (∃ (q : Addr) (st₀ t T' : State) (L : List Loc) (E : String) (ce : Cell), st₀.heap = H ∧ Stand p l e R s m args below meth c T' (locs ++ L) (cells + mc) (slots + ms) ∧ (∀ z ∈ L, free z.base) ∧ T'.heap = t.heap ∧ T'.vm = t.vm ∧ XC E st₀ t ∧ t.heap[q]? = some ce ∧ ce.vm = .none ∧ s.vm.findClass E = some ce.cls ∧
      Steps p.tables e below (T.setTop g) ((T'.setTop { g with stack := rest }).pushFrame (.throwing q)))
def vx_X {S : Type} (px : S → Prop) (B : String → S → State → Prop) (A : Nat → Prop) : String → State → State → Prop := fun E st t => ∃ u : S, px u ∧ B E u t ∧ va_F A st t
section Runs
variable {p : Program} {l : Launch} {e : Env} {R : Room} {s : State} {m : MethodId} {args : Array Value} {below : List Frame} {meth : Method} {c : Code} {H : Heap} {locs : List Loc} {cells slots : Nat}
variable {y : MethodName} {bytes cc : ByteArray} {maxL nL mc ms n index : Nat} {ret : Option FieldType} {ws : List Cond} {rm : Room} {Pc : Array Value → State → Prop} {Qc : Array Value → State → Outcome → State → Prop} {XC : String → State → State → Prop} {free : Addr → Prop} {Ts : List Cond} {own C : String} {b : Addr} {As rest : List Value} {g : JFrame}
theorem vx_callBack (cb : CallB R s args own index y bytes maxL ret ws rm mc ms n) (hM : vx_Met l y ws rm Pc Qc XC mc ms free) (hbl : FrameBlind Pc) : vx_Back l R p e below s args y 3 8 (PreOf R mc ms Pc) (PostOf Qc mc ms free) (vx_Post XC mc ms free) := by
  obtain ⟨hrc, hrs, hfr, hlo, hws, hcw, -, hini, -⟩ := cb
  exact vx_back (bytes := bytes) (maxL := maxL) (ret := ret) hM hbl hrc hrs hfr hlo hws hcw (fun a' U hW => word_at hW (Or.inl (by first | rfl | simp [Cond.onTables, Cond.keeps, Cond.steady])) hini)
theorem vx_runV (S : CallFix p m c cc nL s args Ts own) (hM : vx_Met l y ws rm Pc Qc XC mc ms free) (cw : CallW R s args own C index y bytes maxL ret ws rm mc ms n) (hp : PreV s H C b Pc As)
    (hg : g.method = m) (hn : As.length = n) (hsize : g.locals.size = nL) (hstack : g.stack = As.reverse ++ .ref b :: rest) (hW : 2 * g.monitorRoom + (rest.map fun v => v.category).sum ≤ 8) (hdg : decode cc g.pc = .ok (.invokevirtual index, 3)) (hf : cells + mc ≤ R.cells ∧ slots + ms ≤ R.slots) :
    vx_Run p l e R s m args below meth c H locs cells slots mc ms g rest (Qc (Value.ref b :: As).toArray) XC free := by
  have hK : vx_Back l R p e below s args y 3 8 (PreOf R mc ms Pc) (PostOf Qc mc ms free) (vx_Post XC mc ms free) := vx_callBack cw.1 hM hp.1
  obtain ⟨⟨-, -, -, -, -, -, hcode, -, hy, hlen, hl⟩, hin, hse⟩ := cw
  obtain ⟨hx, hb, hml, ho, -⟩ := S
  obtain ⟨-, ⟨cellB, hcB, hoB, hclB⟩, hPc⟩ := hp
  intro T hT X
  rcases vx_callV X hx (C := C) (bytes := bytes) (maxL := maxL) (ret := ret) ho hl hin hse hcode hy hK (by rw [hT]; exact hcB) hoB hclB hg (hsize.trans hml.symm) (argsL := As) (rest := rest) (fun sig h => hn.trans (hlen sig h)) hstack hW (by rw [hb]; exact hdg)
    (fun vm₁ hW₁ => ⟨hf.1, hf.2, hPc (T.setVm vm₁) hT hW₁⟩) with ⟨v, vm₁, ⟨U', l2, c2, s2⟩, hW₁, X', ⟨g', mk, t, L, e1, e2, hq, h1, hL, h2, h3⟩, st⟩ | ⟨q, vm₁, ⟨U', l2, c2, s2⟩, hW₁, X', ⟨g', mk, t, L, E, ce, e1, e2, hq, hce, hcv, hcl, h1, hL, h2, h3⟩, st⟩
  · dsimp only [Pt.U, Pt.locs, Pt.cells, Pt.slots] at X' e1 e2 h1 h2 h3 st
    subst h1; subst h2; subst h3
    exact Or.inl ⟨v, (T.setVm vm₁).calling g' mk (Value.ref b :: As).toArray, t, U', L, hT, X', hL, e1, e2, hq, st⟩
  · dsimp only [Pt.U, Pt.locs, Pt.cells, Pt.slots] at X' e1 e2 h1 h2 h3 st hcl
    subst h1; subst h2; subst h3
    exact Or.inr ⟨q, (T.setVm vm₁).calling g' mk (Value.ref b :: As).toArray, t, U', L, E, ce, hT, X', hL, e1, e2, hq, hce, hcv, vx_cls hW₁ hcl, st⟩
theorem vx_runS (S : CallFix p m c cc nL s args Ts own) (hM : vx_Met l y ws rm Pc Qc XC mc ms free) (cw : CallB R s args own index y bytes maxL ret ws rm mc ms n ∧ (Cond.static y).before args s = true) (hp : PreS s H Pc As)
    (hg : g.method = m) (hn : As.length = n) (hsize : g.locals.size = nL) (hstack : g.stack = As.reverse ++ rest) (hW : 2 * g.monitorRoom + (rest.map fun v => v.category).sum ≤ 8) (hdg : decode cc g.pc = .ok (.invokestatic index, 3)) (hf : cells + mc ≤ R.cells ∧ slots + ms ≤ R.slots) :
    vx_Run p l e R s m args below meth c H locs cells slots mc ms g rest (Qc As.toArray) XC free := by
  have hK : vx_Back l R p e below s args y 3 8 (PreOf R mc ms Pc) (PostOf Qc mc ms free) (vx_Post XC mc ms free) := vx_callBack cw.1 hM hp.1
  obtain ⟨⟨-, -, -, -, -, -, hcode, hini, hy, hlen, hl⟩, hstt⟩ := cw
  obtain ⟨hx, hb, hml, ho, -⟩ := S
  intro T hT X
  rcases vx_callS X hx (bytes := bytes) (maxL := maxL) (ret := ret) ho hl hstt hini hcode hy hK hg (hsize.trans hml.symm) (argsL := As) (rest := rest) (fun sig h => hn.trans (hlen sig h)) hstack hW (by rw [hb]; exact hdg)
    (fun vm₁ hW₁ => ⟨hf.1, hf.2, hp.2 (T.setVm vm₁) hT hW₁⟩) with ⟨v, vm₁, ⟨U', l2, c2, s2⟩, hW₁, X', ⟨g', mk, t, L, e1, e2, hq, h1, hL, h2, h3⟩, st⟩ | ⟨q, vm₁, ⟨U', l2, c2, s2⟩, hW₁, X', ⟨g', mk, t, L, E, ce, e1, e2, hq, hce, hcv, hcl, h1, hL, h2, h3⟩, st⟩
  · dsimp only [Pt.U, Pt.locs, Pt.cells, Pt.slots] at X' e1 e2 h1 h2 h3 st
    subst h1; subst h2; subst h3
    exact Or.inl ⟨v, (T.setVm vm₁).calling g' mk As.toArray, t, U', L, hT, X', hL, e1, e2, hq, st⟩
  · dsimp only [Pt.U, Pt.locs, Pt.cells, Pt.slots] at X' e1 e2 h1 h2 h3 st hcl
    subst h1; subst h2; subst h3
    exact Or.inr ⟨q, (T.setVm vm₁).calling g' mk As.toArray, t, U', L, E, ce, hT, X', hL, e1, e2, hq, hce, hcv, vx_cls hW₁ hcl, st⟩
end Runs
section Rows
variable {p : Program} {l : Launch} {e : Env} {R : Room} {s : State} {m : MethodId} {args : Array Value} {below : List Frame} {meth : Method} {c : Code} {H : Heap} {locs : List Loc} {cells slots : Nat} {Q : State → Prop}
variable {mc ms : Nat} {free : Addr → Prop} {A0 A1 : Nat → Prop} {H0 : Heap} {a : Array Value} {pc : Nat} {ls : Array Slot} {st0 rest : List Value}
theorem vx_keep {st₀ t T' : State} {L : List Loc} (h0 : st₀.heap = H) (e1 : T'.heap = t.heap) (hS : va_S A0 H0 H locs) (hA : ∀ q, q < H.size → A1 q → A0 q) (hf : ∀ q, free q → A0 q) (hL : ∀ q ∈ L, free q.base) (hF : va_F A1 st₀ t) :
    H.size ≤ T'.heap.size ∧ (∀ q : Nat, q < H.size → ¬ A1 q → T'.heap[q]? = H[q]?) ∧ va_S A0 H0 T'.heap (locs ++ L) := by
  obtain ⟨hz, hk⟩ := hF
  rw [h0] at hz hk
  exact ⟨by rw [e1]; exact hz, fun q h1 h2 => by rw [e1]; exact hk q h1 h2,
    ⟨Nat.le_trans hS.1 (by rw [e1]; exact hz), fun q h1 h2 => by rw [e1, hk q (Nat.lt_of_lt_of_le h1 hS.1) (fun z => h2 (hA q (Nat.lt_of_lt_of_le h1 hS.1) z))]; exact hS.2.1 q h1 h2, fun q hq => by
      rcases List.mem_append.mp hq with h | h
      · exact hS.2.2 q h
      · exact hf _ (hL q h)⟩⟩
theorem vx_calli {S SX : Type} {post : Int32 → S → Prop} {px : SX → Prop} {B : S → State → Prop} {BX : String → SX → State → Prop} {AX : Nat → Prop} (hr : vx_Run p l e R s m args below meth c H locs cells slots mc ms (F0 m pc ls st0) rest (va_Qi post B A1 a) (vx_X px BX AX) free) (hS : va_S A0 H0 H locs) (hA : ∀ q, q < H.size → A1 q → A0 q) (hf : ∀ q, free q → A0 q) (hAX : ∀ q, q < H.size → AX q → A0 q)
    (kx : ∀ (E : String) (ce : Cell) (q9 : Addr) (u : SX) (t : State) (H1 : Heap) (locs1 : List Loc), t.heap = H1 → s.vm.Alike t.vm → px u → BX E u t → H.size ≤ H1.size → (∀ q : Nat, q < H.size → ¬ AX q → H1[q]? = H[q]?) → va_S A0 H0 H1 locs1 → H1[q9]? = some ce → ce.vm = .none → s.vm.findClass E = some ce.cls → vx_W p l e R s m args below meth c H1 locs1 (cells + mc) (slots + ms) Q (F0 m pc ls rest) q9)
    (kk : ∀ (r : Int32) (u : S) (t : State) (H1 : Heap) (locs1 : List Loc), t.heap = H1 → s.vm.Alike t.vm → post r u → B u t → H.size ≤ H1.size → (∀ q : Nat, q < H.size → ¬ A1 q → H1[q]? = H[q]?) → va_S A0 H0 H1 locs1 → W p l e R s m args below meth c H1 locs1 (cells + mc) (slots + ms) Q (F0 m (pc + 3) ls (.int r :: rest))) : W p l e R s m args below meth c H locs cells slots Q (F0 m pc ls st0) := by
  intro T hT X
  rcases hr T hT X with ⟨v, st₀, t, T', L, h0, X', hL, e1, e2, ⟨⟨r, u, hv, hp, hb⟩, hF⟩, st⟩ | ⟨q, st₀, t, T', L, E, ce, h0, X', hL, e1, e2, ⟨u, hp, hb, hF⟩, hce, hcv, hcl, st⟩
  · cases hv
    obtain ⟨k1, k2, k3⟩ := vx_keep h0 e1 hS hA hf hL hF
    obtain ⟨t2, a1, b1⟩ := kk r u t T'.heap (locs ++ L) e1.symm (by rw [← e2]; exact X'.warmed.alike) hp hb k1 k2 k3 T' rfl X'
    exact ⟨t2, st t2 a1, b1⟩
  · obtain ⟨k1, k2, k3⟩ := vx_keep h0 e1 hS hAX hf hL hF
    obtain ⟨t2, a1, b1⟩ := kx E ce q u t T'.heap (locs ++ L) e1.symm (by rw [← e2]; exact X'.warmed.alike) hp hb k1 k2 k3 (by rw [e1]; exact hce) hcv hcl T' rfl X'
    exact ⟨t2, st.trans a1, b1⟩
theorem vx_calll {S SX : Type} {post : Int64 → S → Prop} {px : SX → Prop} {B : S → State → Prop} {BX : String → SX → State → Prop} {AX : Nat → Prop} (hr : vx_Run p l e R s m args below meth c H locs cells slots mc ms (F0 m pc ls st0) rest (va_Ql post B A1 a) (vx_X px BX AX) free) (hS : va_S A0 H0 H locs) (hA : ∀ q, q < H.size → A1 q → A0 q) (hf : ∀ q, free q → A0 q) (hAX : ∀ q, q < H.size → AX q → A0 q)
    (kx : ∀ (E : String) (ce : Cell) (q9 : Addr) (u : SX) (t : State) (H1 : Heap) (locs1 : List Loc), t.heap = H1 → s.vm.Alike t.vm → px u → BX E u t → H.size ≤ H1.size → (∀ q : Nat, q < H.size → ¬ AX q → H1[q]? = H[q]?) → va_S A0 H0 H1 locs1 → H1[q9]? = some ce → ce.vm = .none → s.vm.findClass E = some ce.cls → vx_W p l e R s m args below meth c H1 locs1 (cells + mc) (slots + ms) Q (F0 m pc ls rest) q9)
    (kk : ∀ (r : Int64) (u : S) (t : State) (H1 : Heap) (locs1 : List Loc), t.heap = H1 → s.vm.Alike t.vm → post r u → B u t → H.size ≤ H1.size → (∀ q : Nat, q < H.size → ¬ A1 q → H1[q]? = H[q]?) → va_S A0 H0 H1 locs1 → W p l e R s m args below meth c H1 locs1 (cells + mc) (slots + ms) Q (F0 m (pc + 3) ls (.long r :: rest))) : W p l e R s m args below meth c H locs cells slots Q (F0 m pc ls st0) := by
  intro T hT X
  rcases hr T hT X with ⟨v, st₀, t, T', L, h0, X', hL, e1, e2, ⟨⟨r, u, hv, hp, hb⟩, hF⟩, st⟩ | ⟨q, st₀, t, T', L, E, ce, h0, X', hL, e1, e2, ⟨u, hp, hb, hF⟩, hce, hcv, hcl, st⟩
  · cases hv
    obtain ⟨k1, k2, k3⟩ := vx_keep h0 e1 hS hA hf hL hF
    obtain ⟨t2, a1, b1⟩ := kk r u t T'.heap (locs ++ L) e1.symm (by rw [← e2]; exact X'.warmed.alike) hp hb k1 k2 k3 T' rfl X'
    exact ⟨t2, st t2 a1, b1⟩
  · obtain ⟨k1, k2, k3⟩ := vx_keep h0 e1 hS hAX hf hL hF
    obtain ⟨t2, a1, b1⟩ := kx E ce q u t T'.heap (locs ++ L) e1.symm (by rw [← e2]; exact X'.warmed.alike) hp hb k1 k2 k3 (by rw [e1]; exact hce) hcv hcl T' rfl X'
    exact ⟨t2, st.trans a1, b1⟩
theorem vx_callf {S SX : Type} {post : UInt32 → S → Prop} {px : SX → Prop} {B : S → State → Prop} {BX : String → SX → State → Prop} {AX : Nat → Prop} (hr : vx_Run p l e R s m args below meth c H locs cells slots mc ms (F0 m pc ls st0) rest (va_Qf post B A1 a) (vx_X px BX AX) free) (hS : va_S A0 H0 H locs) (hA : ∀ q, q < H.size → A1 q → A0 q) (hf : ∀ q, free q → A0 q) (hAX : ∀ q, q < H.size → AX q → A0 q)
    (kx : ∀ (E : String) (ce : Cell) (q9 : Addr) (u : SX) (t : State) (H1 : Heap) (locs1 : List Loc), t.heap = H1 → s.vm.Alike t.vm → px u → BX E u t → H.size ≤ H1.size → (∀ q : Nat, q < H.size → ¬ AX q → H1[q]? = H[q]?) → va_S A0 H0 H1 locs1 → H1[q9]? = some ce → ce.vm = .none → s.vm.findClass E = some ce.cls → vx_W p l e R s m args below meth c H1 locs1 (cells + mc) (slots + ms) Q (F0 m pc ls rest) q9)
    (kk : ∀ (r : UInt32) (u : S) (t : State) (H1 : Heap) (locs1 : List Loc), t.heap = H1 → s.vm.Alike t.vm → post r u → B u t → H.size ≤ H1.size → (∀ q : Nat, q < H.size → ¬ A1 q → H1[q]? = H[q]?) → va_S A0 H0 H1 locs1 → W p l e R s m args below meth c H1 locs1 (cells + mc) (slots + ms) Q (F0 m (pc + 3) ls (.float r :: rest))) : W p l e R s m args below meth c H locs cells slots Q (F0 m pc ls st0) := by
  intro T hT X
  rcases hr T hT X with ⟨v, st₀, t, T', L, h0, X', hL, e1, e2, ⟨⟨r, u, hv, hp, hb⟩, hF⟩, st⟩ | ⟨q, st₀, t, T', L, E, ce, h0, X', hL, e1, e2, ⟨u, hp, hb, hF⟩, hce, hcv, hcl, st⟩
  · cases hv
    obtain ⟨k1, k2, k3⟩ := vx_keep h0 e1 hS hA hf hL hF
    obtain ⟨t2, a1, b1⟩ := kk r u t T'.heap (locs ++ L) e1.symm (by rw [← e2]; exact X'.warmed.alike) hp hb k1 k2 k3 T' rfl X'
    exact ⟨t2, st t2 a1, b1⟩
  · obtain ⟨k1, k2, k3⟩ := vx_keep h0 e1 hS hAX hf hL hF
    obtain ⟨t2, a1, b1⟩ := kx E ce q u t T'.heap (locs ++ L) e1.symm (by rw [← e2]; exact X'.warmed.alike) hp hb k1 k2 k3 (by rw [e1]; exact hce) hcv hcl T' rfl X'
    exact ⟨t2, st.trans a1, b1⟩
theorem vx_calld {S SX : Type} {post : UInt64 → S → Prop} {px : SX → Prop} {B : S → State → Prop} {BX : String → SX → State → Prop} {AX : Nat → Prop} (hr : vx_Run p l e R s m args below meth c H locs cells slots mc ms (F0 m pc ls st0) rest (va_Qd post B A1 a) (vx_X px BX AX) free) (hS : va_S A0 H0 H locs) (hA : ∀ q, q < H.size → A1 q → A0 q) (hf : ∀ q, free q → A0 q) (hAX : ∀ q, q < H.size → AX q → A0 q)
    (kx : ∀ (E : String) (ce : Cell) (q9 : Addr) (u : SX) (t : State) (H1 : Heap) (locs1 : List Loc), t.heap = H1 → s.vm.Alike t.vm → px u → BX E u t → H.size ≤ H1.size → (∀ q : Nat, q < H.size → ¬ AX q → H1[q]? = H[q]?) → va_S A0 H0 H1 locs1 → H1[q9]? = some ce → ce.vm = .none → s.vm.findClass E = some ce.cls → vx_W p l e R s m args below meth c H1 locs1 (cells + mc) (slots + ms) Q (F0 m pc ls rest) q9)
    (kk : ∀ (r : UInt64) (u : S) (t : State) (H1 : Heap) (locs1 : List Loc), t.heap = H1 → s.vm.Alike t.vm → post r u → B u t → H.size ≤ H1.size → (∀ q : Nat, q < H.size → ¬ A1 q → H1[q]? = H[q]?) → va_S A0 H0 H1 locs1 → W p l e R s m args below meth c H1 locs1 (cells + mc) (slots + ms) Q (F0 m (pc + 3) ls (.double r :: rest))) : W p l e R s m args below meth c H locs cells slots Q (F0 m pc ls st0) := by
  intro T hT X
  rcases hr T hT X with ⟨v, st₀, t, T', L, h0, X', hL, e1, e2, ⟨⟨r, u, hv, hp, hb⟩, hF⟩, st⟩ | ⟨q, st₀, t, T', L, E, ce, h0, X', hL, e1, e2, ⟨u, hp, hb, hF⟩, hce, hcv, hcl, st⟩
  · cases hv
    obtain ⟨k1, k2, k3⟩ := vx_keep h0 e1 hS hA hf hL hF
    obtain ⟨t2, a1, b1⟩ := kk r u t T'.heap (locs ++ L) e1.symm (by rw [← e2]; exact X'.warmed.alike) hp hb k1 k2 k3 T' rfl X'
    exact ⟨t2, st t2 a1, b1⟩
  · obtain ⟨k1, k2, k3⟩ := vx_keep h0 e1 hS hAX hf hL hF
    obtain ⟨t2, a1, b1⟩ := kx E ce q u t T'.heap (locs ++ L) e1.symm (by rw [← e2]; exact X'.warmed.alike) hp hb k1 k2 k3 (by rw [e1]; exact hce) hcv hcl T' rfl X'
    exact ⟨t2, st.trans a1, b1⟩
theorem vx_callv {S SX : Type} {post : S → Prop} {px : SX → Prop} {B : S → State → Prop} {BX : String → SX → State → Prop} {AX : Nat → Prop} (hr : vx_Run p l e R s m args below meth c H locs cells slots mc ms (F0 m pc ls st0) rest (va_Qv post B A1 a) (vx_X px BX AX) free) (hS : va_S A0 H0 H locs) (hA : ∀ q, q < H.size → A1 q → A0 q) (hf : ∀ q, free q → A0 q) (hAX : ∀ q, q < H.size → AX q → A0 q)
    (kx : ∀ (E : String) (ce : Cell) (q9 : Addr) (u : SX) (t : State) (H1 : Heap) (locs1 : List Loc), t.heap = H1 → s.vm.Alike t.vm → px u → BX E u t → H.size ≤ H1.size → (∀ q : Nat, q < H.size → ¬ AX q → H1[q]? = H[q]?) → va_S A0 H0 H1 locs1 → H1[q9]? = some ce → ce.vm = .none → s.vm.findClass E = some ce.cls → vx_W p l e R s m args below meth c H1 locs1 (cells + mc) (slots + ms) Q (F0 m pc ls rest) q9)
    (kk : ∀ (u : S) (t : State) (H1 : Heap) (locs1 : List Loc), t.heap = H1 → s.vm.Alike t.vm → post u → B u t → H.size ≤ H1.size → (∀ q : Nat, q < H.size → ¬ A1 q → H1[q]? = H[q]?) → va_S A0 H0 H1 locs1 → W p l e R s m args below meth c H1 locs1 (cells + mc) (slots + ms) Q (F0 m (pc + 3) ls (rest))) : W p l e R s m args below meth c H locs cells slots Q (F0 m pc ls st0) := by
  intro T hT X
  rcases hr T hT X with ⟨v, st₀, t, T', L, h0, X', hL, e1, e2, ⟨⟨u, hv, hp, hb⟩, hF⟩, st⟩ | ⟨q, st₀, t, T', L, E, ce, h0, X', hL, e1, e2, ⟨u, hp, hb, hF⟩, hce, hcv, hcl, st⟩
  · cases hv
    obtain ⟨k1, k2, k3⟩ := vx_keep h0 e1 hS hA hf hL hF
    obtain ⟨t2, a1, b1⟩ := kk u t T'.heap (locs ++ L) e1.symm (by rw [← e2]; exact X'.warmed.alike) hp hb k1 k2 k3 T' rfl X'
    exact ⟨t2, st t2 a1, b1⟩
  · obtain ⟨k1, k2, k3⟩ := vx_keep h0 e1 hS hAX hf hL hF
    obtain ⟨t2, a1, b1⟩ := kx E ce q u t T'.heap (locs ++ L) e1.symm (by rw [← e2]; exact X'.warmed.alike) hp hb k1 k2 k3 (by rw [e1]; exact hce) hcv hcl T' rfl X'
    exact ⟨t2, st.trans a1, b1⟩
/-- caught by the row x of this method's table; the rows ahead don't take it -/
theorem vx_catch {own name : String} {E : String} {ce : Cell} {q : Addr} (hown : s.vm.findClass own = some m.cls) (pre : List ExceptionTableEntry) (x : ExceptionTableEntry) (suf : List ExceptionTableEntry) (hsplit : c.exceptionTable.toList = pre ++ x :: suf)
    (hpass : ∀ z ∈ pre, covers z pc = false ∨ (z.catchType ≠ 0 ∧ ∃ nm : String, (Cond.classLink own z.catchType nm).before args s = true ∧ va_Nc E nm s)) (hx : covers x pc = true) (h0 : x.catchType ≠ 0)
    (hlink : (Cond.classLink own x.catchType name).before args s = true) (hcast : (Cond.castable E name).before args s = true) (hcell : H[q]? = some ce) (hv : ce.vm = .none) (hcl : s.vm.findClass E = some ce.cls)
    (kk : W p l e R s m args below meth c H locs cells slots Q (F0 m x.handlerPc ls [.ref q])) : vx_W p l e R s m args below meth c H locs cells slots Q (F0 m pc ls rest) q := by
  intro T hT X
  have hpl : e.platform.magicAccessors = ({} : Platform).magicAccessors := by rw [X.admits.platform]
  obtain ⟨c3, c4, hc3, hc4, hasg⟩ := Cond.castable_spec hcast
  cases Option.some.inj (hc3.symm.trans hcl)
  obtain ⟨c5, hc5, hcl5⟩ := Cond.classLink_spec hown hlink e.platform hpl
  cases Option.some.inj (hc4.symm.trans hc5)
  obtain ⟨vm', X', st⟩ := X.thenCaughtThrough q (g := F0 m pc ls rest) rfl (Steps.refl _) (by rw [hT]; exact hcell) (by rw [hv]; rfl) (by obtain ⟨k9, h9, -⟩ := Vm.findClass_spec hcl; exact ⟨k9, h9⟩) pre x suf hsplit
    (fun z hz => by
      rcases hpass z hz with h | ⟨hz0, nm, hl1, hn1⟩
      · exact Or.inl h
      · obtain ⟨c6, hc6, hcl6⟩ := Cond.classLink_spec hown hl1 e.platform hpl
        obtain ⟨a8, b8, h1, h2, h3⟩ := hn1
        cases Option.some.inj (h1.symm.trans hcl)
        cases Option.some.inj (h2.symm.trans hc6)
        exact Or.inr ⟨hz0, _, hcl6, h3⟩) hx (Or.inr ⟨h0, c4, hcl5, hasg⟩)
  obtain ⟨t, a1, b1⟩ := kk (T.setVm vm') hT X'
  exact ⟨t, st.trans a1, b1⟩
end Rows
section Ends
variable {p : Program} {l : Launch} {e : Env} {R : Room} {s : State} {m : MethodId} {args : Array Value} {below : List Frame} {meth : Method} {c : Code} {H : Heap} {locs : List Loc} {cells slots : Nat} {Q : State → Prop}
variable {mc ms : Nat} {free : Addr → Prop} {A0 A1 : Nat → Prop} {H0 : Heap} {a : Array Value} {ls : Array Slot} {st0 rest : List Value}
variable {Qc : Array Value → State → Outcome → State → Prop} {XC : String → State → State → Prop}
/-- what a body that may throw owes at its end -/
def vx_MQ (below : List Frame) (Qc : Array Value → State → Outcome → State → Prop) (XC : String → State → State → Prop) (a : Array Value) (s : State) (mc ms : Nat) (free : Addr → Prop) : State → Prop := fun t =>
  ∃ o, t.status = .running ∧ Ended t below o ∧ vx_Q Qc XC mc ms free a s o t
theorem vx_ret {g : JFrame} {mc ms : Nat} (k : W p l e R s m args below meth c H locs cells slots (MQ below Qc args s mc ms free) g) : W p l e R s m args below meth c H locs cells slots (vx_MQ below Qc XC args s mc ms free) g := by
  intro T hT X
  obtain ⟨t, a1, o, b1, b2, b3, b4⟩ := k T hT X
  exact ⟨t, a1, o, b1, b2, Or.inl ⟨b3, b4⟩⟩
/-- not caught here: it goes on to the caller -/
theorem vx_widen {g : JFrame} {q : Addr} {k n : Nat} (h1 : cells ≤ k) (h2 : slots ≤ n) (kk : vx_W p l e R s m args below meth c H locs k n Q g q) : vx_W p l e R s m args below meth c H locs cells slots Q g q := fun T hT X => kk T hT (stand_widen X h1 h2)
theorem vx_out {pc : Nat} {E : String} {ce : Cell} {q : Addr} {mc ms : Nat} (hout : ∀ x ∈ c.exceptionTable.toList, covers x pc = false) (hlocks : meth.locks = false) (hcell : H[q]? = some ce) (hv : ce.vm = .none) (hcl : s.vm.findClass E = some ce.cls)
    (hx : ∀ t : State, t.heap = H → s.vm.Alike t.vm → XC E s t) (hf : ∀ z ∈ locs, free z.base) (hc : cells ≤ mc) (hs : slots ≤ ms) :
    vx_W p l e R s m args below meth c H locs cells slots (vx_MQ below Qc XC args s mc ms free) (F0 m pc ls rest) q := by
  intro T hT X
  obtain ⟨st1, hrun, hend, hW, hsm⟩ := X.leaveThrown q (g := F0 m pc ls rest) rfl rfl rfl hout hlocks
  have hcell9 : (T.setFrames (.throwing q :: below)).heap[q]? = some ce := by
    show T.heap[q]? = some ce
    rw [hT]; exact hcell
  exact ⟨_, st1, .threw q, hrun, hend, Or.inr ⟨q, rfl, E, ce, locs, hx _ hT hW.alike, hcell9, hv, hcl, hW, hsm.mono hc hs, hf⟩⟩
theorem vx_frame {U : State} {k n : Nat} (h : s.sameButNew ({ U with vm := s.vm } : State) locs k n) : s.heap.size ≤ U.heap.size ∧ ∀ q : Nat, q < s.heap.size → (∀ z ∈ locs, z.base ≠ q) → U.heap[q]? = s.heap[q]? := by
  obtain ⟨-, h2, -, -, -, h6⟩ := h
  refine ⟨h2, fun q hq hz => ?_⟩
  obtain ⟨c9, e1, e2, e3, e4⟩ := h6 q _ (Array.getElem?_eq_getElem hq)
  have hs : c9.slots = (s.heap[q]).slots := Array.ext_getElem? fun i => e4 i fun hm => hz _ hm rfl
  have h9 : c9 = s.heap[q] := by
    rw [hs] at e2
    exact e2
  have e5 : U.heap[q]? = some c9 := e1
  rw [e5, h9, Array.getElem?_eq_getElem hq]
/-- the words of a throw but the four that speak of the heap -/
def vx_no (w : Cond) : Bool := decide (w ≠ .isRef (.static Bundle.tN "UNASSIGNED_STACK" Bundle.steD)) && decide (w ≠ .isRef (.static Bundle.tN "SUPPRESSED_SENTINEL" Bundle.listD)) && decide (w ≠ .laysStatic Bundle.tN "UNASSIGNED_STACK" Bundle.steD) && decide (w ≠ .laysStatic Bundle.tN "SUPPRESSED_SENTINEL" Bundle.listD)
def vx_at0 (own : String) (ic : Nat) (X : String) (names : List String) : List Cond := (Bundle.ownAtoms0 own ic X names).filter vx_no
def vx_atS (own : String) (ic : Nat) (X : String) (names : List String) : List Cond := (Bundle.ownAtoms own ic X names).filter vx_no
/-- a word that the tables alone decide, or a good one -/
def vx_ot (w : Cond) : Bool := w.onTables || goodWord w
theorem vx_ot_at {args a' : Array Value} {s U : State} {w : Cond} (hW : s.WarmedH U.vm) (hvm : s.vm = U.vm) (hg : vx_ot w = true) (h : w.before args s = true) : w.before a' U = true := by
  simp only [vx_ot, Bool.or_eq_true] at hg
  rcases hg with hg | hg
  · exact va_tabs hg hvm h
  · exact word_at hW (good_of_word hg) h
/-- a list's words: the good ones out of the method's own list, the others by premises of their own -/
theorem vx_hat {args : Array Value} {s : State} {L B : List Cond} (h1 : ∀ w ∈ L.filter goodWord, w.before args s = true) (h2 : ∀ w ∈ L.filter (fun w => !goodWord w), w ∈ B) (h3 : ∀ w ∈ B, w.before args s = true) : ∀ w ∈ L, w.before args s = true := by
  intro w hw
  by_cases g : goodWord w = true
  · exact h1 w (List.mem_filter.mpr ⟨hw, g⟩)
  · refine h3 w (h2 w (List.mem_filter.mpr ⟨hw, ?_⟩))
    show (!goodWord w) = true
    cases hgw : goodWord w
    · rfl
    · exact absurd hgw g
theorem vx_c {args : Array Value} {s : State} {w : Cond} {B : List Cond} (h : w.before args s = true) (t : ∀ w ∈ B, w.before args s = true) : ∀ w' ∈ w :: B, w'.before args s = true := fun w' h' => (List.mem_cons.mp h').elim (fun e => by rw [e]; exact h) (t w')
theorem vx_n {args : Array Value} {s : State} : ∀ w ∈ ([] : List Cond), w.before args s = true := fun _ h => nomatch h
theorem vx_own {args : Array Value} {s : State} {L : List Cond} (h1 : ∀ w ∈ L.filter vx_no, w.before args s = true)
    (hU : (Cond.isRef (.static Bundle.tN "UNASSIGNED_STACK" Bundle.steD)).before args s = true) (hN : (Cond.isRef (.static Bundle.tN "SUPPRESSED_SENTINEL" Bundle.listD)).before args s = true)
    (lU : (Cond.laysStatic Bundle.tN "UNASSIGNED_STACK" Bundle.steD).before args s = true) (lN : (Cond.laysStatic Bundle.tN "SUPPRESSED_SENTINEL" Bundle.listD).before args s = true) : ∀ w ∈ L, w.before args s = true := by
  intro w hw
  by_cases e1 : w = .isRef (.static Bundle.tN "UNASSIGNED_STACK" Bundle.steD)
  · rw [e1]; exact hU
  · by_cases e2 : w = .isRef (.static Bundle.tN "SUPPRESSED_SENTINEL" Bundle.listD)
    · rw [e2]; exact hN
    · by_cases e3 : w = .laysStatic Bundle.tN "UNASSIGNED_STACK" Bundle.steD
      · rw [e3]; exact lU
      · by_cases e4 : w = .laysStatic Bundle.tN "SUPPRESSED_SENTINEL" Bundle.listD
        · rw [e4]; exact lN
        · exact h1 w (List.mem_filter.mpr ⟨hw, by unfold vx_no; rw [decide_eq_true e1, decide_eq_true e2, decide_eq_true e3, decide_eq_true e4]; rfl⟩)
/-- where a static field lies, its class's statics cell in H -/
def vx_L (C n d : String) (A : Nat → Prop) (U : State) (H : Heap) : Prop := ∃ (c : ClassId) (k : Class) (i : Nat) (f : Field) (a : Nat) (cell : Cell), U.vm.findClass C = some c ∧ U.fieldFound? C n d = some (c, k, i, f) ∧ f.isStatic = true ∧ k.statics = some a ∧ H[a]? = some cell ∧ cell.vm.isStatics = true ∧ cell.cls = c ∧ f.slot < cell.slots.size ∧ k.staticTypes[f.slot]? = some f.type ∧ ¬ A a
theorem vx_L.moved {C n d : String} {A : Nat → Prop} {u U : State} {H : Heap} (hvm : u.vm.Alike U.vm) (h : vx_L C n d A u H) : vx_L C n d A U H := by
  obtain ⟨c, k, i, f, a, cell, h1, h2, h3, h4, h5, h6, h7, h8, h9, h10⟩ := h
  obtain ⟨k', hi', he⟩ := State.fieldFound?_setVm hvm h2
  exact ⟨c, k', i, f, a, cell, by rw [hvm.findClass]; exact h1, hi', h3, by rw [he]; exact h4, h5, h6, h7, h8, by rw [he]; exact h9, h10⟩
theorem vx_L.kept {C n d : String} {A : Nat → Prop} {U : State} {H H1 : Heap} (h : vx_L C n d A U H) (hq : ∀ a : Nat, a < H.size → ¬ A a → H1[a]? = H[a]?) : vx_L C n d A U H1 := by
  obtain ⟨c, k, i, f, a, cell, h1, h2, h3, h4, h5, h6, h7, h8, h9, h10⟩ := h
  exact ⟨c, k, i, f, a, cell, h1, h2, h3, h4, by rw [hq a (Array.getElem?_eq_some_iff.mp h5).1 h10]; exact h5, h6, h7, h8, h9, h10⟩
theorem vx_L.narrow {C n d : String} {A B : Nat → Prop} {U : State} {H : Heap} (h : vx_L C n d A U H) (hAB : ∀ q, B q → A q) : vx_L C n d B U H := by
  obtain ⟨c, k, i, f, a, cell, h1, h2, h3, h4, h5, h6, h7, h8, h9, h10⟩ := h
  exact ⟨c, k, i, f, a, cell, h1, h2, h3, h4, h5, h6, h7, h8, h9, fun z => h10 (hAB _ z)⟩
theorem vx_L.word {C n d : String} {A : Nat → Prop} {s : State} {args : Array Value} (h : vx_L C n d A s s.heap) : (Cond.laysStatic C n d).before args s = true := by
  obtain ⟨c, k, i, f, a, cell, h1, h2, h3, h4, h5, h6, h7, h8, h9, -⟩ := h
  show (Cond.laysStatic C n d).holds args s none s [] = true
  exact Cond.laysStatic_of h1 h2 h3 h4 h5 h6 h7 h8 h9
/-- .. and what it holds: null or some reference -/
def vx_Zq (C n d : String) (A : Nat → Prop) (U : State) (H : Heap) : Prop := va_Zq C n d A U H ∧ vx_L C n d A U H
theorem vx_Zq.moved {C n d : String} {A : Nat → Prop} {u U : State} {H : Heap} (hvm : u.vm.Alike U.vm) (h : vx_Zq C n d A u H) : vx_Zq C n d A U H := ⟨va_Zq.moved hvm h.1, vx_L.moved hvm h.2⟩
theorem vx_Zq.kept {C n d : String} {A : Nat → Prop} {U : State} {H H1 : Heap} (h : vx_Zq C n d A U H) (hq : ∀ a : Nat, a < H.size → ¬ A a → H1[a]? = H[a]?) : vx_Zq C n d A U H1 := ⟨va_Zq.kept h.1 hq, vx_L.kept h.2 hq⟩
theorem vx_Zq.narrow {C n d : String} {A B : Nat → Prop} {U : State} {H : Heap} (h : vx_Zq C n d A U H) (hAB : ∀ q, B q → A q) : vx_Zq C n d B U H := ⟨va_Zq.narrow h.1 hAB, vx_L.narrow h.2 hAB⟩
theorem vx_Zqof {args : Array Value} {s : State} {C n d : String} {A : Nat → Prop} (hl : (Cond.laysStatic C n d).before args s = true) (hini : (Cond.initialized C).before args s = true) (h : (Cond.isRef (.static C n d)).before args s = true) (hA : ∀ a : Nat, a < s.heap.size → ¬ A a) : vx_Zq C n d A s s.heap := by
  refine ⟨va_Zqof hl hini h hA, ?_⟩
  obtain ⟨c, k, i, f, a, cell, h1, h2, h3, h4, h5, h6, h7, h8, h9⟩ := Cond.laysStatic_spec hl
  exact ⟨c, k, i, f, a, cell, h1, h2, h3, h4, h5, h6, h7, h8, h9, hA a (Array.getElem?_eq_some_iff.mp h5).1⟩
theorem vx_isRef {C n d : String} {v : Value} {A : Nat → Prop} {s : State} {args : Array Value} (h : va_Z C n d v A s s.heap) (hv : v.isRef = true) : (Cond.isRef (.static C n d)).before args s = true := by
  obtain ⟨cf, kf, fi, f, a, cell, h1, h2, h3, h4, h5, h6, h7, -⟩ := h
  have he : (Term.static C n d).eval args s none [] s = some v := by
    simp [Term.eval, State.fieldNamed?, h1, h2, h4, h5, h6, h7]
  simp only [Cond.before, Cond.holds, Cond.value, he]
  cases v <;> simp_all [Value.isRef]
theorem vx_isRefq {C n d : String} {A : Nat → Prop} {s : State} {args : Array Value} (h : va_Zq C n d A s s.heap) : (Cond.isRef (.static C n d)).before args s = true := by
  rcases h with h | ⟨t, h⟩
  · exact vx_isRef h rfl
  · exact vx_isRef h rfl
/-- the same frame, seen from here: as if the method were called anew in this heap -/
theorem vx_rebase {T : State} (X : Stand p l e R s m args below meth c T locs cells slots) {R' : Room} (hf : R'.frames ≤ R.frames) (hl : R'.locals ≤ R.locals) (hc : cells + R'.cells ≤ R.cells) (hs : slots + R'.slots ≤ R.slots) :
    Stand p l e R' ((T.setVm s.vm).setFrames (.invoking m args :: below)) m args below meth c T [] 0 0 := by
  have htop : (T.setVm s.vm).topJava?.isSome := X.here.top
  have hF : ((T.setVm s.vm).setFrames (.invoking m args :: below)).frames = .invoking m args :: below := State.frames_setFrames _ (State.cur_lt_of_top htop)
  obtain ⟨g₀, hg0⟩ := Option.isSome_iff_exists.mp htop
  obtain ⟨r, hr⟩ := State.topJava?_eq_some.mp hg0
  have hl9 : e.platform.stackLimits (T.setVm s.vm).me = e.platform.stackLimits s.me := X.limits
  have hb9 : (T.setVm s.vm).me.stackBytes = s.me.stackBytes := X.bytes
  refine ⟨X.admits, X.cas, X.clock, hF, ?_, X.hears, X.method, X.code, X.here, X.tail, X.warmed, ?_, ?_, ?_⟩
  · have h := X.room
    have hU : ((T.setVm s.vm).setFrames (.invoking m args :: below)).localsInUse = s.localsInUse := by
      rw [State.localsInUse_invoking hF (meth := meth) (c := c) X.method X.code, State.localsInUse_invoking X.frames X.method X.code]
    simp only [State.hasRoom, Bool.and_eq_true, decide_eq_true_eq] at h ⊢
    obtain ⟨⟨⟨⟨h1, h2, h3, h4, h5, h6⟩, h7⟩, h8⟩, h9⟩ := h
    rw [X.frames, List.length_cons] at h2 h3
    have q1 := X.heapSize
    have q2 := X.used
    simp only [hF, hU, List.length_cons, State.stackLimits_setFrames, State.stackBytes_setFrames, hl9, hb9]
    refine ⟨⟨⟨⟨by omega, by omega, by omega, by omega, by omega, h6⟩, ?_⟩, ?_⟩, X.book⟩
    · show T.heap.size + R'.cells ≤ e.platform.maxCells
      omega
    · show T.slotsUsed + R'.slots ≤ e.platform.maxSlots
      omega
  · rw [State.stackLimits_setFrames]; rfl
  · rw [State.stackBytes_setFrames]; rfl
  · refine ⟨?_, Nat.le_refl _, Nat.le_refl _, ?_, ?_, fun a c9 h9 => ⟨c9, h9, rfl, rfl, fun _ _ => rfl⟩⟩
    · obtain ⟨t, ht, -⟩ := State.frames_cons hr
      show T.setVm s.vm = { ((T.setVm s.vm).setFrames (.invoking m args :: below)).setFrames (T.setVm s.vm).frames with heap := T.heap, slotsUsed := T.slotsUsed }
      rw [State.setFrames_setFrames, State.setFrames_self ht]
      rfl
    · show T.slotsUsed = T.slotsUsed + ((T.heap.toList.drop T.heap.size).map (·.slots.size)).sum
      rw [List.drop_eq_nil_of_le (Nat.le_of_eq Array.length_toList)]
      rfl
    · show ((T.heap.toList.drop T.heap.size).map (·.slots.size)).sum ≤ 0
      rw [List.drop_eq_nil_of_le (Nat.le_of_eq Array.length_toList)]
      exact Nat.le_refl _
/-- 'throw new E()': new; dup; invokespecial; athrow -/
theorem vx_throw0 {cc : ByteArray} {pc : Nat} (hexec : p.tables.exec = Jvm.exec) (hb : c.code = cc) (hl : l.stackTraces = false) {own cls : String} {names : List String} {ik ic mc ms : Nat} {A : Nat → Prop}
    (hown : s.vm.findClass own = some m.cls) (hcls : Bundle.fit cls = true) (hnames : ∀ n ∈ names, Bundle.fit n = true)
    (hk : (Cond.classLink own ik cls).before args s = true) (hini : (Cond.initialized cls).before args s = true) (hat : ∀ w ∈ vx_at0 own ic cls names, w.before args s = true)
    (hgood : ∀ w ∈ Cond.classLink own ik cls :: Cond.initialized cls :: vx_at0 own ic cls names, vx_ot w = true)
    (hU : vx_Zq Bundle.tN "UNASSIGNED_STACK" Bundle.steD A s s.heap) (hN : vx_Zq Bundle.tN "SUPPRESSED_SENTINEL" Bundle.listD A s s.heap) (hS : va_S A s.heap H locs) (hsize : ls.size = c.maxLocals)
    (d0 : decode cc pc = .ok (.new ik, 3)) (d3 : decode cc (pc + 3) = .ok (.dup, 1)) (d4 : decode cc (pc + 4) = .ok (.invokespecial ic, 3)) (d7 : decode cc (pc + 7) = .ok (.athrow, 1))
    (hout : ∀ x ∈ c.exceptionTable.toList, covers x (pc + 7) = false)
    (hRframes : names.length + 3 < R.frames) (hRlocals : (rest.map fun v => v.category).sum + (13 * (names.length + 1) + 42) ≤ R.locals) (hRcells : cells + 1 ≤ R.cells) (hRslots : slots + 6 ≤ R.slots) (hlocks : meth.locks = false)
    (hx : ∀ t : State, s.vm.Alike t.vm → H.size ≤ t.heap.size → (∀ q : Nat, q < H.size → t.heap[q]? = H[q]?) → XC cls s t)
    (hf : ∀ z ∈ locs, free z.base) (hc : cells + 1 ≤ mc) (hs : slots + 6 ≤ ms) :
    W p l e R s m args below meth c H locs cells slots (vx_MQ below Qc XC args s mc ms free) (F0 m pc ls rest) := by
  intro T hT X
  have htr : e.platform.stackTraces = false := (show e.platform.stackTraces = l.stackTraces by rw [X.admits.platform]).trans hl
  have Y := vx_rebase X (R' := { frames := R.frames, locals := R.locals, cells := 1, slots := 6 }) (Nat.le_refl _) (Nat.le_refl _) hRcells hRslots
  obtain ⟨s', hA⟩ : ∃ z, z = (T.setVm s.vm).setFrames (.invoking m args :: below) := ⟨_, rfl⟩
  rw [← hA] at Y
  have hvm : s'.vm = s.vm := by rw [hA]; rfl
  have hhp : s'.heap = H := by rw [hA]; exact hT
  have hW0 : s.WarmedH s'.vm := by rw [hvm]; exact State.WarmedH.refl s
  have hat' : ∀ w ∈ vx_at0 own ic cls names, w.before args s' = true := fun w hw => vx_ot_at hW0 hvm.symm (hgood w (List.mem_cons_of_mem _ (List.mem_cons_of_mem _ hw))) (hat w hw)
  have hk' : (Cond.classLink own ik cls).before args s' = true := vx_ot_at hW0 hvm.symm (hgood _ List.mem_cons_self) hk
  have hini' : (Cond.initialized cls).before args s' = true := vx_ot_at hW0 hvm.symm (hgood _ (List.mem_cons_of_mem _ List.mem_cons_self)) hini
  have hU' : vx_Zq Bundle.tN "UNASSIGNED_STACK" Bundle.steD A s' s'.heap := by rw [hhp]; exact vx_Zq.moved hW0.alike (hU.kept hS.2.1)
  have hN' : vx_Zq Bundle.tN "SUPPRESSED_SENTINEL" Bundle.listD A s' s'.heap := by rw [hhp]; exact vx_Zq.moved hW0.alike (hN.kept hS.2.1)
  have h : ∀ w ∈ Bundle.ownAtoms0 own ic cls names, w.before args s' = true := vx_own hat' (vx_isRefq hU'.1) (vx_isRefq hN'.1) hU'.2.word hN'.2.word
  have hown' : s'.vm.findClass own = some m.cls := by rw [hvm]; exact hown
  have hins : (Cond.instantiable cls 6).before args s' = true := h _ (by simp [Bundle.ownAtoms0])
  obtain ⟨vm₁, cX, kX, hfX, hkX, -, -, X₁, st1⟩ := Y.newCold hexec (own := own) (C := cls) (index := ik) (n := 6) hown' hk' hins hini'
    (g := F0 m pc ls rest) rfl (by rw [hb]; exact d0) (Nat.le_refl _) (Nat.le_refl _)
  generalize hT1 : (T.setVm vm₁).pushCell { cls := cX, slots := kX.instanceTypes.map defaultValue, vm := .none } = T1 at X₁ st1
  have hcat : (Value.ref T.heap.size).category = 1 := rfl
  have hcellA : T1.heap[T.heap.size]? = some (freshCell cX kX) := by rw [← hT1]; exact State.heap_pushCell_size _ _
  have d3' : decode c.code (pc + 3) = .ok (.dup, 1) := by rw [hb]; exact d3
  obtain ⟨U, hsteps, hrun, hend, hW, hsame, ce, hce, hO⟩ := X₁.ctorThrow0 hexec htr (own := own) (cls := cls) (names := names) (ic := ic) hown' hcls hnames h (fun x hx => nomatch hx) hfX hkX hcellA (by rw [hhp, hT]; exact Nat.le_refl _)
    (g := { method := m, pc := pc + 4, locals := ls, stack := .ref T.heap.size :: .ref T.heap.size :: rest, locked := none }) rfl hsize rfl rfl (rest := rest) rfl
    (by rw [hb]; exact d4) (by rw [hb]; exact d7) hout hRframes (by simp only [List.map_cons, List.sum_cons, hcat]; omega) hlocks
  obtain ⟨f1, f2⟩ := vx_frame hsame
  rw [hhp] at f1 f2
  have hWs : s.WarmedH U.vm := State.WarmedH.trans hW0 hW
  have hcl : s.vm.findClass cls = some ce.cls := by
    have h9 := hO.cls
    rw [hvm] at h9
    exact h9
  have hall : s.sameButNew ({ U with vm := s.vm } : State) locs mc ms := by
    subst hA
    obtain ⟨e1, e2⟩ := hsame
    rw [State.setFrames_setFrames] at e1
    have h2 : (T.setVm s.vm).sameButNew ({ U with vm := s.vm } : State) [] (0 + 1) (0 + 6) := ⟨e1, e2⟩
    have h3 := X.same.trans h2
    rw [List.append_nil] at h3
    exact h3.mono hc hs
  refine ⟨U, ?_, .threw T.heap.size, hrun, hend, Or.inr ⟨T.heap.size, rfl, cls, ce, locs, hx U hWs.alike f1 (fun q hq => f2 q hq (fun z hz => nomatch hz)), hce, hO.vm, hcl, hWs, hall, hf⟩⟩
  refine st1 _ ?_
  show Steps p.tables e below (T1.setTop { method := m, pc := pc + 3, locals := ls, stack := .ref T.heap.size :: rest, locked := none }) _
  jvm_step X₁.here [X₁.here.top, hexec, d3', Value.category]
  exact hsteps
/-- 'throw new E("text")': new; dup; ldc; invokespecial; athrow -/
theorem vx_throwS {cc : ByteArray} {pc : Nat} (hexec : p.tables.exec = Jvm.exec) (hb : c.code = cc) (hl : l.stackTraces = false) {own cls text : String} {names : List String} {ik is ic mc ms sa : Nat} {A : Nat → Prop}
    (hown : s.vm.findClass own = some m.cls) (hcls : Bundle.fit cls = true) (hnames : ∀ n ∈ names, Bundle.fit n = true)
    (hk : (Cond.classLink own ik cls).before args s = true) (hini : (Cond.initialized cls).before args s = true) (hstr : vk_R own is text sa s) (hat : ∀ w ∈ vx_atS own ic cls names, w.before args s = true)
    (hgood : ∀ w ∈ Cond.classLink own ik cls :: Cond.initialized cls :: vx_atS own ic cls names, vx_ot w = true)
    (hU : vx_Zq Bundle.tN "UNASSIGNED_STACK" Bundle.steD A s s.heap) (hN : vx_Zq Bundle.tN "SUPPRESSED_SENTINEL" Bundle.listD A s s.heap) (hS : va_S A s.heap H locs) (hsize : ls.size = c.maxLocals)
    (d0 : decode cc pc = .ok (.new ik, 3)) (d3 : decode cc (pc + 3) = .ok (.dup, 1)) (d4 : decode cc (pc + 4) = .ok (.ldc is, 2)) (d6 : decode cc (pc + 6) = .ok (.invokespecial ic, 3)) (d9 : decode cc (pc + 9) = .ok (.athrow, 1))
    (hout : ∀ x ∈ c.exceptionTable.toList, covers x (pc + 9) = false)
    (hRframes : names.length + 3 < R.frames) (hRlocals : (rest.map fun v => v.category).sum + (13 * (names.length + 1) + 43) ≤ R.locals) (hRcells : cells + 1 ≤ R.cells) (hRslots : slots + 6 ≤ R.slots) (hlocks : meth.locks = false)
    (hx : ∀ t : State, s.vm.Alike t.vm → H.size ≤ t.heap.size → (∀ q : Nat, q < H.size → t.heap[q]? = H[q]?) → XC cls s t)
    (hf : ∀ z ∈ locs, free z.base) (hc : cells + 1 ≤ mc) (hs : slots + 6 ≤ ms) :
    W p l e R s m args below meth c H locs cells slots (vx_MQ below Qc XC args s mc ms free) (F0 m pc ls rest) := by
  intro T hT X
  have htr : e.platform.stackTraces = false := (show e.platform.stackTraces = l.stackTraces by rw [X.admits.platform]).trans hl
  have Y := vx_rebase X (R' := { frames := R.frames, locals := R.locals, cells := 1, slots := 6 }) (Nat.le_refl _) (Nat.le_refl _) hRcells hRslots
  obtain ⟨s', hA⟩ : ∃ z, z = (T.setVm s.vm).setFrames (.invoking m args :: below) := ⟨_, rfl⟩
  rw [← hA] at Y
  have hvm : s'.vm = s.vm := by rw [hA]; rfl
  have hhp : s'.heap = H := by rw [hA]; exact hT
  have hW0 : s.WarmedH s'.vm := by rw [hvm]; exact State.WarmedH.refl s
  have hat' : ∀ w ∈ vx_atS own ic cls names, w.before args s' = true := fun w hw => vx_ot_at hW0 hvm.symm (hgood w (List.mem_cons_of_mem _ (List.mem_cons_of_mem _ hw))) (hat w hw)
  have hk' : (Cond.classLink own ik cls).before args s' = true := vx_ot_at hW0 hvm.symm (hgood _ List.mem_cons_self) hk
  have hini' : (Cond.initialized cls).before args s' = true := vx_ot_at hW0 hvm.symm (hgood _ (List.mem_cons_of_mem _ List.mem_cons_self)) hini
  have hU' : vx_Zq Bundle.tN "UNASSIGNED_STACK" Bundle.steD A s' s'.heap := by rw [hhp]; exact vx_Zq.moved hW0.alike (hU.kept hS.2.1)
  have hN' : vx_Zq Bundle.tN "SUPPRESSED_SENTINEL" Bundle.listD A s' s'.heap := by rw [hhp]; exact vx_Zq.moved hW0.alike (hN.kept hS.2.1)
  have h : ∀ w ∈ Bundle.ownAtoms own ic cls names, w.before args s' = true := vx_own hat' (vx_isRefq hU'.1) (vx_isRefq hN'.1) hU'.2.word hN'.2.word
  have hown' : s'.vm.findClass own = some m.cls := by rw [hvm]; exact hown
  have hins : (Cond.instantiable cls 6).before args s' = true := h _ (by simp [Bundle.ownAtoms])
  obtain ⟨vm₁, cX, kX, hfX, hkX, -, -, X₁, st1⟩ := Y.newCold hexec (own := own) (C := cls) (index := ik) (n := 6) hown' hk' hins hini'
    (g := F0 m pc ls rest) rfl (by rw [hb]; exact d0) (Nat.le_refl _) (Nat.le_refl _)
  generalize hT1 : (T.setVm vm₁).pushCell { cls := cX, slots := kX.instanceTypes.map defaultValue, vm := .none } = T1 at X₁ st1
  have hcat : (Value.ref T.heap.size).category = 1 := rfl
  have hcellA : T1.heap[T.heap.size]? = some (freshCell cX kX) := by rw [← hT1]; exact State.heap_pushCell_size _ _
  have d3' : decode c.code (pc + 3) = .ok (.dup, 1) := by rw [hb]; exact d3
  have d4' : decode c.code (pc + 4) = .ok (.ldc is, 2) := by rw [hb]; exact d4
  have hstr' : vk_R own is text sa s' := vk_R.warm hW0 hstr
  obtain ⟨U, hsteps, hrun, hend, hW, hsame, ce, hce, hO⟩ := X₁.ctorThrowS hexec htr (own := own) (cls := cls) (names := names) (ic := ic) hown' hcls hnames h (fun x hx => nomatch hx) hfX hkX hcellA (by rw [hhp, hT]; exact Nat.le_refl _) (msg := .ref sa) rfl
    (g := { method := m, pc := pc + 6, locals := ls, stack := .ref sa :: .ref T.heap.size :: .ref T.heap.size :: rest, locked := none }) rfl hsize rfl rfl (rest := rest) rfl
    (by rw [hb]; exact d6) (by rw [hb]; exact d9) hout hRframes (by simp only [List.map_cons, List.sum_cons, hcat]; omega) hlocks
  obtain ⟨f1, f2⟩ := vx_frame hsame
  rw [hhp] at f1 f2
  have hWs : s.WarmedH U.vm := State.WarmedH.trans hW0 hW
  have hcl : s.vm.findClass cls = some ce.cls := by
    have h9 := hO.cls
    rw [hvm] at h9
    exact h9
  have hall : s.sameButNew ({ U with vm := s.vm } : State) locs mc ms := by
    subst hA
    obtain ⟨e1, e2⟩ := hsame
    rw [State.setFrames_setFrames] at e1
    have h2 : (T.setVm s.vm).sameButNew ({ U with vm := s.vm } : State) [] (0 + 1) (0 + 6) := ⟨e1, e2⟩
    have h3 := X.same.trans h2
    rw [List.append_nil] at h3
    exact h3.mono hc hs
  refine ⟨U, ?_, .threw T.heap.size, hrun, hend, Or.inr ⟨T.heap.size, rfl, cls, ce, locs, hx U hWs.alike f1 (fun q hq => f2 q hq (fun z hz => nomatch hz)), hce, hO.vm, hcl, hWs, hall, hf⟩⟩
  refine st1 _ ?_
  show Steps p.tables e below (T1.setTop { method := m, pc := pc + 3, locals := ls, stack := .ref T.heap.size :: rest, locked := none }) _
  jvm_step X₁.here [X₁.here.top, hexec, d3', Value.category]
  exact X₁.ldcString hexec (own := own) (text := text) (index := is) (a := sa) hown' hstr'.1 hstr'.2
    (g := { method := m, pc := pc + 4, locals := ls, stack := .ref T.heap.size :: .ref T.heap.size :: rest, locked := none }) rfl d4' _ hsteps
/-- 'throw new E("text")', the text by a wide index -/
theorem vx_throwSW {cc : ByteArray} {pc : Nat} (hexec : p.tables.exec = Jvm.exec) (hb : c.code = cc) (hl : l.stackTraces = false) {own cls text : String} {names : List String} {ik is ic mc ms sa : Nat} {A : Nat → Prop}
    (hown : s.vm.findClass own = some m.cls) (hcls : Bundle.fit cls = true) (hnames : ∀ n ∈ names, Bundle.fit n = true)
    (hk : (Cond.classLink own ik cls).before args s = true) (hini : (Cond.initialized cls).before args s = true) (hstr : vk_R own is text sa s) (hat : ∀ w ∈ vx_atS own ic cls names, w.before args s = true)
    (hgood : ∀ w ∈ Cond.classLink own ik cls :: Cond.initialized cls :: vx_atS own ic cls names, vx_ot w = true)
    (hU : vx_Zq Bundle.tN "UNASSIGNED_STACK" Bundle.steD A s s.heap) (hN : vx_Zq Bundle.tN "SUPPRESSED_SENTINEL" Bundle.listD A s s.heap) (hS : va_S A s.heap H locs) (hsize : ls.size = c.maxLocals)
    (d0 : decode cc pc = .ok (.new ik, 3)) (d3 : decode cc (pc + 3) = .ok (.dup, 1)) (d4 : decode cc (pc + 4) = .ok (.ldc_w is, 3)) (d7 : decode cc (pc + 7) = .ok (.invokespecial ic, 3)) (d10 : decode cc (pc + 10) = .ok (.athrow, 1))
    (hout : ∀ x ∈ c.exceptionTable.toList, covers x (pc + 10) = false)
    (hRframes : names.length + 3 < R.frames) (hRlocals : (rest.map fun v => v.category).sum + (13 * (names.length + 1) + 43) ≤ R.locals) (hRcells : cells + 1 ≤ R.cells) (hRslots : slots + 6 ≤ R.slots) (hlocks : meth.locks = false)
    (hx : ∀ t : State, s.vm.Alike t.vm → H.size ≤ t.heap.size → (∀ q : Nat, q < H.size → t.heap[q]? = H[q]?) → XC cls s t)
    (hf : ∀ z ∈ locs, free z.base) (hc : cells + 1 ≤ mc) (hs : slots + 6 ≤ ms) :
    W p l e R s m args below meth c H locs cells slots (vx_MQ below Qc XC args s mc ms free) (F0 m pc ls rest) := by
  intro T hT X
  have htr : e.platform.stackTraces = false := (show e.platform.stackTraces = l.stackTraces by rw [X.admits.platform]).trans hl
  have Y := vx_rebase X (R' := { frames := R.frames, locals := R.locals, cells := 1, slots := 6 }) (Nat.le_refl _) (Nat.le_refl _) hRcells hRslots
  obtain ⟨s', hA⟩ : ∃ z, z = (T.setVm s.vm).setFrames (.invoking m args :: below) := ⟨_, rfl⟩
  rw [← hA] at Y
  have hvm : s'.vm = s.vm := by rw [hA]; rfl
  have hhp : s'.heap = H := by rw [hA]; exact hT
  have hW0 : s.WarmedH s'.vm := by rw [hvm]; exact State.WarmedH.refl s
  have hat' : ∀ w ∈ vx_atS own ic cls names, w.before args s' = true := fun w hw => vx_ot_at hW0 hvm.symm (hgood w (List.mem_cons_of_mem _ (List.mem_cons_of_mem _ hw))) (hat w hw)
  have hk' : (Cond.classLink own ik cls).before args s' = true := vx_ot_at hW0 hvm.symm (hgood _ List.mem_cons_self) hk
  have hini' : (Cond.initialized cls).before args s' = true := vx_ot_at hW0 hvm.symm (hgood _ (List.mem_cons_of_mem _ List.mem_cons_self)) hini
  have hU' : vx_Zq Bundle.tN "UNASSIGNED_STACK" Bundle.steD A s' s'.heap := by rw [hhp]; exact vx_Zq.moved hW0.alike (hU.kept hS.2.1)
  have hN' : vx_Zq Bundle.tN "SUPPRESSED_SENTINEL" Bundle.listD A s' s'.heap := by rw [hhp]; exact vx_Zq.moved hW0.alike (hN.kept hS.2.1)
  have h : ∀ w ∈ Bundle.ownAtoms own ic cls names, w.before args s' = true := vx_own hat' (vx_isRefq hU'.1) (vx_isRefq hN'.1) hU'.2.word hN'.2.word
  have hown' : s'.vm.findClass own = some m.cls := by rw [hvm]; exact hown
  have hins : (Cond.instantiable cls 6).before args s' = true := h _ (by simp [Bundle.ownAtoms])
  obtain ⟨vm₁, cX, kX, hfX, hkX, -, -, X₁, st1⟩ := Y.newCold hexec (own := own) (C := cls) (index := ik) (n := 6) hown' hk' hins hini'
    (g := F0 m pc ls rest) rfl (by rw [hb]; exact d0) (Nat.le_refl _) (Nat.le_refl _)
  generalize hT1 : (T.setVm vm₁).pushCell { cls := cX, slots := kX.instanceTypes.map defaultValue, vm := .none } = T1 at X₁ st1
  have hcat : (Value.ref T.heap.size).category = 1 := rfl
  have hcellA : T1.heap[T.heap.size]? = some (freshCell cX kX) := by rw [← hT1]; exact State.heap_pushCell_size _ _
  have d3' : decode c.code (pc + 3) = .ok (.dup, 1) := by rw [hb]; exact d3
  have d4' : decode c.code (pc + 4) = .ok (.ldc_w is, 3) := by rw [hb]; exact d4
  have hstr' : vk_R own is text sa s' := vk_R.warm hW0 hstr
  obtain ⟨U, hsteps, hrun, hend, hW, hsame, ce, hce, hO⟩ := X₁.ctorThrowS hexec htr (own := own) (cls := cls) (names := names) (ic := ic) hown' hcls hnames h (fun x hx => nomatch hx) hfX hkX hcellA (by rw [hhp, hT]; exact Nat.le_refl _) (msg := .ref sa) rfl
    (g := { method := m, pc := pc + 7, locals := ls, stack := .ref sa :: .ref T.heap.size :: .ref T.heap.size :: rest, locked := none }) rfl hsize rfl rfl (rest := rest) rfl
    (by rw [hb]; exact d7) (by rw [hb]; exact d10) hout hRframes (by simp only [List.map_cons, List.sum_cons, hcat]; omega) hlocks
  obtain ⟨f1, f2⟩ := vx_frame hsame
  rw [hhp] at f1 f2
  have hWs : s.WarmedH U.vm := State.WarmedH.trans hW0 hW
  have hcl : s.vm.findClass cls = some ce.cls := by
    have h9 := hO.cls
    rw [hvm] at h9
    exact h9
  have hall : s.sameButNew ({ U with vm := s.vm } : State) locs mc ms := by
    subst hA
    obtain ⟨e1, e2⟩ := hsame
    rw [State.setFrames_setFrames] at e1
    have h2 : (T.setVm s.vm).sameButNew ({ U with vm := s.vm } : State) [] (0 + 1) (0 + 6) := ⟨e1, e2⟩
    have h3 := X.same.trans h2
    rw [List.append_nil] at h3
    exact h3.mono hc hs
  refine ⟨U, ?_, .threw T.heap.size, hrun, hend, Or.inr ⟨T.heap.size, rfl, cls, ce, locs, hx U hWs.alike f1 (fun q hq => f2 q hq (fun z hz => nomatch hz)), hce, hO.vm, hcl, hWs, hall, hf⟩⟩
  refine st1 _ ?_
  show Steps p.tables e below (T1.setTop { method := m, pc := pc + 3, locals := ls, stack := .ref T.heap.size :: rest, locked := none }) _
  jvm_step X₁.here [X₁.here.top, hexec, d3', Value.category]
  exact X₁.ldcStringW hexec (own := own) (text := text) (index := is) (a := sa) hown' hstr'.1 hstr'.2
    (g := { method := m, pc := pc + 4, locals := ls, stack := .ref T.heap.size :: .ref T.heap.size :: rest, locked := none }) rfl d4' _ hsteps
end Ends
section Bodies
variable {l : Launch}
theorem vx_ofW {y : MethodName} {ws ws' : List Cond} {rm : Room} {Pc : Array Value → State → Prop} {Qc : Array Value → State → Outcome → State → Prop} {XC : String → State → State → Prop} {mc ms : Nat} {free : Addr → Prop} {cc : ByteArray} {maxL : Nat} {ret : Option FieldType}
    (hy : plainName y.cls = true) (hw : ws = Cond.code y cc maxL ret :: ws')
    (body : ∀ p e s m args below meth c s₁, BodyLoose p l y (headSpec ws rm) cc maxL ret e s m args below meth c s₁ → c.maxLocals = maxL → (∀ x ∈ c.exceptionTable.toList, False) → Pc args s →
      W p l e (headSpec ws rm).room s m args below meth c s.heap [] 0 0 (vx_MQ below Qc XC args s mc ms free) (entryFrame m args maxL)) : vx_Met l y ws rm Pc Qc XC mc ms free := by
  refine MetFree.of_bodyS (code := cc) (maxLocals := maxL) (ret := ret) hy ?_ ?_
  · intro args s m h hn
    obtain ⟨meth, c, h1, h2, h3, h4, h5, h6, -, -⟩ := Cond.code_spec hn (atoms_spec (ws := ws) h _ (by rw [hw]; exact List.mem_cons_self))
    exact ⟨meth, c, h1, h2, h3, h4, h5, h6⟩
  · intro p e s m args below meth c s₁ B hml hP _
    have hh0 : s₁.heap = s.heap := by rw [B.state]; rfl
    have ht : ∀ x ∈ c.exceptionTable.toList, False := by
      obtain ⟨meth9, c9, h1, h2, -, -, -, -, h7, -⟩ := Cond.code_spec B.named (atoms_spec (ws := ws) B.pre _ (by rw [hw]; exact List.mem_cons_self))
      cases Option.some.inj (h1.symm.trans B.method)
      cases Option.some.inj (h2.symm.trans (Stand.of_body B).code)
      intro x hx
      rw [Array.isEmpty_iff.mp h7] at hx
      cases hx
    obtain ⟨t, a1, o, b1, b2, b3⟩ := body p e s m args below meth c s₁ B hml ht hP s₁ hh0 (Stand.of_body B)
    exact ⟨t, o, a1, b1, b2, b3⟩
/-- the table of a body with handlers -/
theorem vx_table {p : Program} {x y : MethodName} {S : Spec} {cc bytes : ByteArray} {maxL maxL' : Nat} {ret ret' : Option FieldType} {e : Env} {s s₁ : State} {m : MethodId} {args : Array Value} {below : List Frame} {meth : Method} {c : Code} {hh : List (Nat × Nat × Nat × Nat)}
    (B : BodyLoose p l y S cc maxL ret e s m args below meth c s₁) (h : (Cond.codeWith y bytes maxL' ret' hh).before args s = true) : c.exceptionTable.toList = tableOf hh := by
  obtain ⟨m9, meth9, c9, hn9, h1, h2, -, -, h6, -⟩ := Cond.codeWith_spec h
  cases Option.some.inj (hn9.symm.trans B.named)
  cases Option.some.inj (h1.symm.trans B.method)
  cases Option.some.inj (h2.symm.trans (Stand.of_body B).code)
  rw [← h6, table_eq]
end Bodies
end VXA
/-! ===== END ===== -/
/-! ===== BEGIN a static call of a method with an exception table ===== -/
section VXS
variable {p : Program} {l : Launch} {e : Env} {R : Room} {s : State} {m : MethodId} {args : Array Value} {below : List Frame} {meth : Method} {c : Code} {T : State} {H : Heap} {locs : List Loc} {cells slots : Nat}
abbrev vx_CSW (R : Room) (s : State) (args : Array Value) (own : String) (index : Nat) (y : MethodName) (bytes : ByteArray) (maxL : Nat) (ret : Option FieldType) (hh : List (Nat × Nat × Nat × Nat)) (ws : List Cond) (rm : Room) (mc ms n : Nat) : Prop :=
  (rm.cells = mc ∧ rm.slots = ms ∧ rm.frames + 1 ≤ R.frames ∧ 8 + (maxL + 11) + rm.locals ≤ R.locals ∧ (∀ w ∈ ws, ∀ (a' : Array Value) (U : State), s.WarmedH U.vm → w.before a' U = true) ∧ Cond.codeWith y bytes maxL ret hh ∈ ws) ∧
  (Cond.codeWith y bytes maxL ret hh).before args s = true ∧ (Cond.initialized y.cls).before args s = true ∧ (y.cls ≠ "java/lang/invoke/MethodHandle" ∧ y.cls ≠ "java/lang/invoke/VarHandle") ∧
  (∀ sig, parseMethodDescriptor y.desc = some sig → n = sig.parameters.length) ∧ (Cond.methodLink own index y).before args s = true ∧ (Cond.static y).before args s = true
theorem vx_cwSW {own : String} {index maxL mc ms : Nat} {y : MethodName} {bytes : ByteArray} {ret : Option FieldType} {hh : List (Nat × Nat × Nat × Nat)} {Ts ws ws' : List Cond} {rm : Room} (n : Nat) (ht : ∀ w ∈ Ts, w.before args s = true) (hT : GoodIn Ts (va_wsS own index y ws)) (hw : ws = Cond.codeWith y bytes maxL ret hh :: ws') (hrc : rm.cells = mc) (hrs : rm.slots = ms)
    (hd : y.cls ≠ "java/lang/invoke/MethodHandle" ∧ y.cls ≠ "java/lang/invoke/VarHandle" ∧ (parseMethodDescriptor y.desc).map (fun d => d.parameters.length) = some n) (hR : rm.frames + 1 ≤ R.frames ∧ 8 + (maxL + 11) + rm.locals ≤ R.locals) :
    vx_CSW R s args own index y bytes maxL ret hh ws rm mc ms n := by
  have ok : ∀ w ∈ va_wsS own index y ws, w.before args s = true := fun w h => ht w (hT w h).1
  have hG : GoodIn Ts ws := fun w h => hT w (by unfold va_wsS; exact List.mem_append_right _ h)
  have hc : Cond.codeWith y bytes maxL ret hh ∈ ws := by rw [hw]; exact List.mem_cons_self
  refine ⟨⟨hrc, hrs, hR.1, hR.2, pay_in ht hG, hc⟩, ht _ (hG _ hc).1, ok _ (by simp [va_wsS]), ⟨hd.1, hd.2.1⟩, fun sig h => ?_, ok _ (by simp [va_wsS]), ok _ (by simp [va_wsS])⟩
  have h2 := hd.2.2
  rw [h] at h2
  exact (Option.some.inj h2).symm
theorem vx_callSW (X : Stand p l e R s m args below meth c T locs cells slots) (hexec : p.tables.exec = Jvm.exec) {own : String} {index : Nat} {y : MethodName} {bytes : ByteArray} {maxL : Nat} {ret : Option FieldType} {hh : List (Nat × Nat × Nat × Nat)}
    (hown : s.vm.findClass own = some m.cls) (hlink : (Cond.methodLink own index y).before args s = true) (hstat : (Cond.static y).before args s = true) (hinit : (Cond.initialized y.cls).before args s = true)
    (hcode : (Cond.codeWith y bytes maxL ret hh).before args s = true) (hy : y.cls ≠ "java/lang/invoke/MethodHandle" ∧ y.cls ≠ "java/lang/invoke/VarHandle")
    {W9 : Nat} {Pre : Pt → Array Value → Prop} {Post : Pt → Array Value → Option Value → Pt → Prop} (hK : Back l R p e below s args y 3 W9 Pre Post)
    {g : JFrame} (hg : g.method = m) (hsize : g.locals.size = c.maxLocals) {argsL rest : List Value} (hlen : ∀ sig, parseMethodDescriptor y.desc = some sig → argsL.length = sig.parameters.length)
    (hstack : g.stack = argsL.reverse ++ rest) (hW : 2 * g.monitorRoom + (rest.map fun v => v.category).sum ≤ W9) (hdg : decode c.code g.pc = .ok (.invokestatic index, 3))
    (hpre : ∀ vm₁, s.WarmedH vm₁ → Pre ⟨T.setVm vm₁, locs, cells, slots⟩ argsL.toArray) :
    ∃ (v : Option Value) (vm₁ : Vm) (B : Pt), s.WarmedH vm₁ ∧ Stand p l e R s m args below meth c B.U B.locs B.cells B.slots ∧ Post ⟨T.setVm vm₁, locs, cells, slots⟩ argsL.toArray v B ∧
      ∀ target, Steps p.tables e below (B.U.setTop { g with pc := g.pc + 3, stack := v.toList ++ rest }) target → Steps p.tables e below (T.setTop g) target := by
  obtain ⟨mk, methM, cM, hnamed, hmethM, -, -, -, -, -, -, hsigM⟩ := Cond.codeWith_spec hcode
  have hstatic : methM.isStatic = true := Cond.static_spec hnamed hmethM hstat
  obtain ⟨kP, hkP, -⟩ := className_of_methodNamed hnamed
  have hinitP : kP.init = .initialized := Cond.initialized_spec (findClass_of_methodNamed hnamed) hkP hinit
  obtain ⟨vm₁, X₁, hstep₁⟩ := X.invokestatic hexec hown hlink hnamed hmethM hstatic hkP hinitP hy (g := g) hg (argsL := argsL) (rest := rest) (hlen _ hsigM) hstack hdg
  obtain ⟨v, B, X', hpost, hsteps⟩ := hK m meth c ⟨T.setVm vm₁, locs, cells, slots⟩ { g with stack := rest } (.invokestatic index) mk argsL.toArray X₁ hg hsize hdg hW (X₁.named hnamed) (hpre vm₁ X₁.warmed)
  exact ⟨v, vm₁, B, X₁.warmed, X', hpost, fun target h => hstep₁ _ fun acts => by rw [doInvoke_state]; exact hsteps.trans h⟩
theorem vx_runSW {y : MethodName} {bytes cc : ByteArray} {maxL nL mc ms n index : Nat} {ret : Option FieldType} {hh : List (Nat × Nat × Nat × Nat)} {ws : List Cond} {rm : Room} {Pc : Array Value → State → Prop} {Qc : Array Value → State → Outcome → State → Prop} {free : Addr → Prop} {Ts : List Cond} {own : String} {As rest : List Value} {g : JFrame}
    (S : CallFix p m c cc nL s args Ts own) (hM : Met l y ws rm Pc Qc mc ms free) (cw : vx_CSW R s args own index y bytes maxL ret hh ws rm mc ms n) (hp : PreS s H Pc As)
    (hg : g.method = m) (hn : As.length = n) (hsize : g.locals.size = nL) (hstack : g.stack = As.reverse ++ rest) (hW : 2 * g.monitorRoom + (rest.map fun v => v.category).sum ≤ 8) (hdg : decode cc g.pc = .ok (.invokestatic index, 3)) (hf : cells + mc ≤ R.cells ∧ slots + ms ≤ R.slots) :
    va_Run p l e R s m args below meth c H locs cells slots mc ms g rest (Qc As.toArray) (free) := by
  obtain ⟨⟨hrc, hrs, hfr, hlo, hws, hcw⟩, hcode, hini, hy, hlen, hl, hstt⟩ := cw
  have hK : Back l R p e below s args y 3 8 (PreOf R mc ms Pc) (PostOf Qc mc ms free) := va_backW (hh := hh) (bytes := bytes) (maxL := maxL) (ret := ret) hM hp.1 hrc hrs hfr hlo hws hcw (fun a' U hW => word_at hW (Or.inl (by first | rfl | simp [Cond.onTables, Cond.keeps, Cond.steady])) hini)
  obtain ⟨hx, hb, hml, ho, -⟩ := S
  intro T hT X
  obtain ⟨v, vm₁, ⟨U', l2, c2, s2⟩, hW₁, X', ⟨g', mk, t, L, e1, e2, hq, h1, hL, h2, h3⟩, st⟩ := vx_callSW X hx (hh := hh) (bytes := bytes) (maxL := maxL) (ret := ret) ho hl hstt hini hcode hy hK hg (hsize.trans hml.symm) (argsL := As) (rest := rest) (fun sig h => hn.trans (hlen sig h)) hstack hW (by rw [hb]; exact hdg)
    (fun vm₁ hW₁ => ⟨hf.1, hf.2, hp.2 (T.setVm vm₁) hT hW₁⟩)
  dsimp only [Pt.U, Pt.locs, Pt.cells, Pt.slots] at X' e1 e2 h1 h2 h3 st
  subst h1; subst h2; subst h3
  exact ⟨v, (T.setVm vm₁).calling g' mk As.toArray, t, U', L, hT, X', hL, e1, e2, hq, st⟩
/-- not caught here, past rows that name other classes: it goes on to the caller -/
theorem vx_outP {p : Program} {l : Launch} {e : Env} {R : Room} {s : State} {m : MethodId} {args : Array Value} {below : List Frame} {meth : Method} {c : Code} {H : Heap} {locs : List Loc} {cells slots : Nat} {free : Addr → Prop} {ls : Array Slot} {rest : List Value} {Qc : Array Value → State → Outcome → State → Prop} {XC : String → State → State → Prop}
    {pc : Nat} {own E : String} {ce : Cell} {q : Addr} {mc ms : Nat} (hown : s.vm.findClass own = some m.cls) (hlocks : meth.locks = false)
    (hpass : ∀ z ∈ c.exceptionTable.toList, covers z pc = false ∨ (z.catchType ≠ 0 ∧ ∃ nm : String, (Cond.classLink own z.catchType nm).before args s = true ∧ va_Nc E nm s)) (hcell : H[q]? = some ce) (hv : ce.vm = .none) (hcl : s.vm.findClass E = some ce.cls)
    (hx : ∀ t : State, t.heap = H → s.vm.Alike t.vm → XC E s t) (hf : ∀ z ∈ locs, free z.base) (hc : cells ≤ mc) (hs : slots ≤ ms) :
    vx_W p l e R s m args below meth c H locs cells slots (vx_MQ below Qc XC args s mc ms free) (F0 m pc ls rest) q := by
  intro T hT X
  have hpl : e.platform.magicAccessors = ({} : Platform).magicAccessors := by rw [X.admits.platform]
  obtain ⟨vm', hW', X', st⟩ := X.outThrough hlocks q (g := F0 m pc ls rest) rfl rfl rfl (cell := ce) (by rw [hT]; exact hcell) (by rw [hv]; rfl)
    (by obtain ⟨k9, h9, -⟩ := Vm.findClass_spec hcl; exact ⟨k9, h9⟩) (fun z hz => by
      rcases hpass z hz with h | ⟨hz0, nm, hl1, hn1⟩
      · exact Or.inl h
      · obtain ⟨c6, hc6, hcl6⟩ := Cond.classLink_spec hown hl1 e.platform hpl
        obtain ⟨a8, b8, h1, h2, h3⟩ := hn1
        cases Option.some.inj (h1.symm.trans hcl)
        cases Option.some.inj (h2.symm.trans hc6)
        exact Or.inr ⟨hz0, _, hcl6, h3⟩)
  obtain ⟨g₀, hfr⟩ := X'.frames_eq
  have hcell9 : ((T.setVm vm').setFrames (.throwing q :: below)).heap[q]? = some ce := by
    show T.heap[q]? = some ce
    rw [hT]; exact hcell
  have hend : Ended ((T.setVm vm').setFrames (.throwing q :: below)) below (.threw q) := State.frames_setFrames _ (State.cur_lt_of_frames hfr)
  refine ⟨(T.setVm vm').setFrames (.throwing q :: below), ?_, .threw q, X'.here.running, hend, Or.inr ⟨q, rfl, E, ce, locs, hx _ hT (X'.ends _).1.alike, hcell9, hv, hcl, (X'.ends _).1, (X'.ends _).2.mono hc hs, hf⟩⟩
  rw [X.pushThrowing_eq]
  exact st
/-- a thing of a world lies in the heap -/
theorem vx_lt {D : va_G} {cl : List vw_C} {ws : va_W} {H1 : Heap} (h : va_P D cl ws H1) {k : Nat} {q : Nat × va_E} (hk : ws[k]? = some q) : q.1 < H1.size := (h k q hk).lt
end VXS
/-! ===== END ===== -/
/-! ===== BEGIN methods with a table of their own: called by a name, returning or throwing ===== -/
section VXH
/-! vx_backW, vx_callVX, vx_callSX, vx_callVW, vx_runVW, vx_runVX, vx_runSX, vx_ofWH follow the same proofs as their sisters above (Free/Laws.lean, Shelf42/LK1.lean); vx_outP calls Shelf42/NT130.lean (outThrough). -/
section
variable {l : Launch} {R : Room} {p : Program} {e : Env} {below : List Frame} {s : State} {sargs : Array Value} {y : MethodName} {len W9 : Nat}
theorem vx_backW {ws : List Cond} {rm : Room} {Pc : Array Value → State → Prop} {Qc : Array Value → State → Outcome → State → Prop} {XC : String → State → State → Prop} {mc ms : Nat} {free : Addr → Prop} {bytes : ByteArray} {maxL : Nat} {ret : Option FieldType} {hh : List (Nat × Nat × Nat × Nat)}
    (hM : vx_Met l y ws rm Pc Qc XC mc ms free) (hblind : FrameBlind Pc) (hrc : rm.cells = mc) (hrs : rm.slots = ms)
    (hframes : rm.frames + 1 ≤ R.frames) (hlocals : W9 + (maxL + 11) + rm.locals ≤ R.locals)
    (hws : ∀ w ∈ ws, ∀ a' U, s.WarmedH U.vm → w.before a' U = true) (hcode : Cond.codeWith y bytes maxL ret hh ∈ ws) (hinit : ∀ a' U, s.WarmedH U.vm → (Cond.initialized y.cls).before a' U = true) :
    vx_Back l R p e below s sargs y len W9 (PreOf R mc ms Pc) (PostOf Qc mc ms free) (vx_Post XC mc ms free) := by
  intro m meth c A g ig mk a X hg hsize hdg hW hn hp
  have h1 : (headSpec ws rm).pre.before a A.U = true := atoms_intro fun w hw => hws w hw _ _ X.warmed
  have h2 : (Cond.codeWith y bytes maxL ret hh).before a A.U = true := hws _ hcode _ _ X.warmed
  have h3 : (Cond.initialized y.cls).before a A.U = true := hinit _ _ X.warmed
  have h4 : A.cells + (headSpec ws rm).room.cells ≤ R.cells := by rw [show (headSpec ws rm).room.cells = mc from hrc]; exact hp.1
  have h5 : A.slots + (headSpec ws rm).room.slots ≤ R.slots := by rw [show (headSpec ws rm).room.slots = ms from hrs]; exact hp.2.1
  have hPc : Pc a (A.U.calling g mk a) := hblind _ _ _ _ hp.2.2
  obtain ⟨U, Ls, c0, s0⟩ := A
  dsimp only [Pt.U, Pt.locs, Pt.cells, Pt.slots] at h1 h2 h3 h4 h5 X hn hPc ⊢
  obtain ⟨m9, methY, cY, hn9, hmY, hcY, -, hlY, -⟩ := Cond.codeWith_spec h2
  cases Option.some.inj (hn9.symm.trans hn)
  obtain ⟨kY, hkY, -⟩ := className_of_methodNamed hn
  have hinitY : kY.init = .initialized := Cond.initialized_spec (findClass_of_methodNamed hn) hkY h3
  have h : At U g.method c below := by rw [hg]; exact X.here
  have hlocals9 : W9 + (maxL + 11) + (headSpec ws rm).room.locals ≤ R.locals := hlocals
  have happ : (headSpec ws rm).appliesLoose y e.platform (U.calling g mk a) = true :=
    Spec.appliesLoose_calling (g := g) h hdg hn hkY hinitY
      (X.room_calling (g := g) (R' := (headSpec ws rm).room) hsize hmY hcY hframes (by rw [hlY]; omega) h4 h5) h1
  obtain ⟨mid, hmid⟩ := h.above
  have hfr : (U.setTop g).frames = (.java g :: mid) ++ below := by rw [State.frames_setTop' g h.top, hmid]; rfl
  obtain ⟨o, s₂, hsteps, -, hend, hq⟩ := Steps.callFree hM p X.admits X.cas X.clock (acts := []) hfr happ hPc trivial
  have hq' : vx_Q Qc XC mc ms free a (U.calling g mk a) o s₂ := hq
  rw [State.frames_setTop' g h.top] at hend
  obtain ⟨g₀, hg0⟩ := Option.isSome_iff_exists.mp h.top
  obtain ⟨r, hr⟩ := State.topJava?_eq_some.mp hg0
  have hr' : (({ U with heap := s₂.heap, slotsUsed := s₂.slotsUsed } : State).setVm s₂.vm).frames = .java g₀ :: r := hr
  rcases hq' with ⟨hqc, L, hfe, hL⟩ | ⟨q, rfl, E, ce, L, hx, hce, hcv, hcl, hW₂, hsm, hL⟩
  · obtain ⟨⟨v, rfl⟩, hW₂, e2, q2, q3, q4, q5, q6⟩ := id hfe
    have e3 : s₂ = ({ (U.calling g mk a).setFrames s₂.frames with heap := s₂.heap, slotsUsed := s₂.slotsUsed } : State).setVm s₂.vm := by
      have : s₂ = ({ s₂ with vm := (U.calling g mk a).vm } : State).setVm s₂.vm := rfl
      rw [e2] at this
      exact this
    obtain ⟨c₂, i₂, len₂, hc₂, hd₂, hf₂⟩ := hend
    have hW' : U.WarmedH s₂.vm := hW₂
    have hcc : c₂ = c := by
      have h1 : s₂.code? g.method = U.code? g.method := by
        rw [State.code?_eq, State.code?_eq, hW'.alike.method?]
      exact Option.some.inj (hc₂.symm.trans (h1.trans h.code))
    subst hcc
    have hlen : len₂ = len := by rw [hdg] at hd₂; cases hd₂; rfl
    subst hlen
    have hs₂ : s₂ = (({ U with heap := s₂.heap, slotsUsed := s₂.slotsUsed } : State).setVm s₂.vm).setTop { g with pc := g.pc + len₂, stack := v.toList ++ g.stack } := by
      refine e3.trans ?_
      rw [hf₂, State.calling_eq h.top, State.setFrames_setFrames, State.setTop_of_frames _ hr', hr]
      rfl
    have hsame : U.sameButNew ({ U with heap := s₂.heap, slotsUsed := s₂.slotsUsed } : State) L mc ms := by
      refine ⟨?_, q2, q3, q4, q5, q6⟩
      obtain ⟨t, ht, -⟩ := State.frames_cons hr
      show ({ U with heap := s₂.heap, slotsUsed := s₂.slotsUsed } : State) = { U.setFrames U.frames with heap := s₂.heap, slotsUsed := s₂.slotsUsed }
      rw [State.setFrames_self ht]
    subst hg
    refine Or.inl ⟨v, ⟨(({ U with heap := s₂.heap, slotsUsed := s₂.slotsUsed } : State).setVm s₂.vm), Ls ++ L, c0 + mc, s0 + ms⟩,
      ⟨X.admits, X.cas, X.clock, X.frames, X.room, X.hears, X.method, X.code, (X.here.setHeapUsed s₂.heap s₂.slotsUsed).setVm hW'.alike, X.tail, State.WarmedH.trans X.warmed hW', X.limits, X.bytes, X.same.trans (hsame.setVm s.vm)⟩,
      ⟨g, mk, s₂, L, rfl, rfl, hqc, rfl, hL, rfl, rfl⟩, ?_⟩
    show Steps p.tables e below _ ((({ U with heap := s₂.heap, slotsUsed := s₂.slotsUsed } : State).setVm s₂.vm).setTop { g with pc := g.pc + len₂, stack := v.toList ++ g.stack })
    rw [← hs₂]
    exact hsteps
  · obtain ⟨e2, q2, q3, q4, q5, q6⟩ := id hsm
    have e3 : s₂ = ({ (U.calling g mk a).setFrames s₂.frames with heap := s₂.heap, slotsUsed := s₂.slotsUsed } : State).setVm s₂.vm := by
      have : s₂ = ({ s₂ with vm := (U.calling g mk a).vm } : State).setVm s₂.vm := rfl
      rw [e2] at this
      exact this
    have hf₂ : s₂.frames = .throwing q :: .java g :: U.frames.tail := hend
    have hW' : U.WarmedH s₂.vm := hW₂
    have hs₂ : s₂ = ((({ U with heap := s₂.heap, slotsUsed := s₂.slotsUsed } : State).setVm s₂.vm).setTop g).pushFrame (.throwing q) := by
      refine e3.trans ?_
      rw [hf₂, State.calling_eq h.top, State.setFrames_setFrames, State.pushFrame, State.frames_setTop _ hr', State.setTop_of_frames _ hr', State.setFrames_setFrames, hr]
      rfl
    have hsame : U.sameButNew ({ U with heap := s₂.heap, slotsUsed := s₂.slotsUsed } : State) L mc ms := by
      refine ⟨?_, q2, q3, q4, q5, q6⟩
      obtain ⟨t, ht, -⟩ := State.frames_cons hr
      show ({ U with heap := s₂.heap, slotsUsed := s₂.slotsUsed } : State) = { U.setFrames U.frames with heap := s₂.heap, slotsUsed := s₂.slotsUsed }
      rw [State.setFrames_self ht]
    subst hg
    refine Or.inr ⟨q, ⟨(({ U with heap := s₂.heap, slotsUsed := s₂.slotsUsed } : State).setVm s₂.vm), Ls ++ L, c0 + mc, s0 + ms⟩,
      ⟨X.admits, X.cas, X.clock, X.frames, X.room, X.hears, X.method, X.code, (X.here.setHeapUsed s₂.heap s₂.slotsUsed).setVm hW'.alike, X.tail, State.WarmedH.trans X.warmed hW', X.limits, X.bytes, X.same.trans (hsame.setVm s.vm)⟩,
      ⟨g, mk, s₂, L, E, ce, rfl, rfl, hx, hce, hcv, hcl, rfl, hL, rfl, rfl⟩, ?_⟩
    show Steps p.tables e below _ (((({ U with heap := s₂.heap, slotsUsed := s₂.slotsUsed } : State).setVm s₂.vm).setTop g).pushFrame (.throwing q))
    rw [← hs₂]
    exact hsteps
end
variable {p : Program} {l : Launch} {e : Env} {R : Room} {s : State} {m : MethodId} {args : Array Value} {below : List Frame} {meth : Method} {c : Code} {T : State} {H : Heap} {locs : List Loc} {cells slots : Nat}
theorem vx_callVX (X : Stand p l e R s m args below meth c T locs cells slots) (hexec : p.tables.exec = Jvm.exec) {own C : String} {index : Nat} {y : MethodName} {bytes : ByteArray} {maxL : Nat} {ret : Option FieldType} {hh : List (Nat × Nat × Nat × Nat)}
    (hown : s.vm.findClass own = some m.cls) (hlink : (Cond.methodLink own index y).before args s = true) (hinst : (Cond.instanceMethod y).before args s = true) (hsel : (Cond.selects C y y).before args s = true)
    (hcode : (Cond.codeWith y bytes maxL ret hh).before args s = true) (hy : y.cls ≠ "java/lang/invoke/MethodHandle" ∧ y.cls ≠ "java/lang/invoke/VarHandle")
    {W9 : Nat} {Pre : Pt → Array Value → Prop} {Post : Pt → Array Value → Option Value → Pt → Prop} {PostX : Pt → Array Value → Addr → Pt → Prop} (hK : vx_Back l R p e below s args y 3 W9 Pre Post PostX)
    {b : Addr} {cellB : Cell} (hcell : T.heap[b]? = some cellB) (hobj : cellB.vm.isStatics = false) (hcls : s.vm.findClass C = some cellB.cls)
    {g : JFrame} (hg : g.method = m) (hsize : g.locals.size = c.maxLocals) {argsL rest : List Value} (hlen : ∀ sig, parseMethodDescriptor y.desc = some sig → argsL.length = sig.parameters.length)
    (hstack : g.stack = argsL.reverse ++ .ref b :: rest) (hW : 2 * g.monitorRoom + (rest.map fun v => v.category).sum ≤ W9) (hdg : decode c.code g.pc = .ok (.invokevirtual index, 3))
    (hpre : ∀ vm₁, s.WarmedH vm₁ → Pre ⟨T.setVm vm₁, locs, cells, slots⟩ (Value.ref b :: argsL).toArray) :
    (∃ (v : Option Value) (vm₁ : Vm) (B : Pt), s.WarmedH vm₁ ∧ Stand p l e R s m args below meth c B.U B.locs B.cells B.slots ∧ Post ⟨T.setVm vm₁, locs, cells, slots⟩ (Value.ref b :: argsL).toArray v B ∧
      ∀ target, Steps p.tables e below (B.U.setTop { g with pc := g.pc + 3, stack := v.toList ++ rest }) target → Steps p.tables e below (T.setTop g) target) ∨
    (∃ (q : Addr) (vm₁ : Vm) (B : Pt), s.WarmedH vm₁ ∧ Stand p l e R s m args below meth c B.U B.locs B.cells B.slots ∧ PostX ⟨T.setVm vm₁, locs, cells, slots⟩ (Value.ref b :: argsL).toArray q B ∧
      Steps p.tables e below (T.setTop g) ((B.U.setTop { g with stack := rest }).pushFrame (.throwing q))) := by
  obtain ⟨mk, methM, hnamed, hmethM, hstM, habM⟩ := Cond.instanceMethod_spec hinst
  obtain ⟨m8, methM', cM, hn8, hmethM', -, -, -, -, -, -, hsigM⟩ := Cond.codeWith_spec hcode
  cases Option.some.inj (hn8.symm.trans hnamed)
  cases hmethM.symm.trans hmethM'
  obtain ⟨c2, r2, m2, q1, q2, q3, q4, kP, hkP, hkPi⟩ := Cond.selects_spec hsel
  cases hcls.symm.trans q1
  cases (State.methodFound?_of_named hnamed hy).symm.trans q2
  cases hnamed.symm.trans q3
  have hselP : selectMethod e.platform s.vm cellB.cls mk = .method mk := by rw [Launch.admits_selectMethod X.admits]; exact q4
  obtain ⟨vm₁, X₁, hstep₁⟩ := X.invokevirtual hexec hown hlink hnamed hmethM hstM hkP hkPi hy (a := b) (cell := cellB) hcell
    (fun z h => by rw [h] at hobj; cases hobj) hselP hmethM habM hkP hkPi (g := g) hg (argsL := argsL) (rest := rest) (hlen _ hsigM) hstack hdg
  rcases hK m meth c ⟨T.setVm vm₁, locs, cells, slots⟩ { g with stack := rest } (.invokevirtual index) mk (Value.ref b :: argsL).toArray X₁ hg hsize hdg hW (X₁.named hnamed) (hpre vm₁ X₁.warmed) with ⟨v, B, X', hpost, hsteps⟩ | ⟨q, B, X', hpost, hsteps⟩
  · exact Or.inl ⟨v, vm₁, B, X₁.warmed, X', hpost, fun target h => hstep₁ _ fun acts => by rw [doInvoke_state]; exact hsteps.trans h⟩
  · exact Or.inr ⟨q, vm₁, B, X₁.warmed, X', hpost, hstep₁ _ fun acts => by rw [doInvoke_state]; exact hsteps⟩
theorem vx_callSX (X : Stand p l e R s m args below meth c T locs cells slots) (hexec : p.tables.exec = Jvm.exec) {own : String} {index : Nat} {y : MethodName} {bytes : ByteArray} {maxL : Nat} {ret : Option FieldType} {hh : List (Nat × Nat × Nat × Nat)}
    (hown : s.vm.findClass own = some m.cls) (hlink : (Cond.methodLink own index y).before args s = true) (hstat : (Cond.static y).before args s = true) (hinit : (Cond.initialized y.cls).before args s = true)
    (hcode : (Cond.codeWith y bytes maxL ret hh).before args s = true) (hy : y.cls ≠ "java/lang/invoke/MethodHandle" ∧ y.cls ≠ "java/lang/invoke/VarHandle")
    {W9 : Nat} {Pre : Pt → Array Value → Prop} {Post : Pt → Array Value → Option Value → Pt → Prop} {PostX : Pt → Array Value → Addr → Pt → Prop} (hK : vx_Back l R p e below s args y 3 W9 Pre Post PostX)
    {g : JFrame} (hg : g.method = m) (hsize : g.locals.size = c.maxLocals) {argsL rest : List Value} (hlen : ∀ sig, parseMethodDescriptor y.desc = some sig → argsL.length = sig.parameters.length)
    (hstack : g.stack = argsL.reverse ++ rest) (hW : 2 * g.monitorRoom + (rest.map fun v => v.category).sum ≤ W9) (hdg : decode c.code g.pc = .ok (.invokestatic index, 3))
    (hpre : ∀ vm₁, s.WarmedH vm₁ → Pre ⟨T.setVm vm₁, locs, cells, slots⟩ argsL.toArray) :
    (∃ (v : Option Value) (vm₁ : Vm) (B : Pt), s.WarmedH vm₁ ∧ Stand p l e R s m args below meth c B.U B.locs B.cells B.slots ∧ Post ⟨T.setVm vm₁, locs, cells, slots⟩ argsL.toArray v B ∧
      ∀ target, Steps p.tables e below (B.U.setTop { g with pc := g.pc + 3, stack := v.toList ++ rest }) target → Steps p.tables e below (T.setTop g) target) ∨
    (∃ (q : Addr) (vm₁ : Vm) (B : Pt), s.WarmedH vm₁ ∧ Stand p l e R s m args below meth c B.U B.locs B.cells B.slots ∧ PostX ⟨T.setVm vm₁, locs, cells, slots⟩ argsL.toArray q B ∧
      Steps p.tables e below (T.setTop g) ((B.U.setTop { g with stack := rest }).pushFrame (.throwing q))) := by
  obtain ⟨mk, methM, cM, hnamed, hmethM, -, -, -, -, -, -, hsigM⟩ := Cond.codeWith_spec hcode
  have hstatic : methM.isStatic = true := Cond.static_spec hnamed hmethM hstat
  obtain ⟨kP, hkP, -⟩ := className_of_methodNamed hnamed
  have hinitP : kP.init = .initialized := Cond.initialized_spec (findClass_of_methodNamed hnamed) hkP hinit
  obtain ⟨vm₁, X₁, hstep₁⟩ := X.invokestatic hexec hown hlink hnamed hmethM hstatic hkP hinitP hy (g := g) hg (argsL := argsL) (rest := rest) (hlen _ hsigM) hstack hdg
  rcases hK m meth c ⟨T.setVm vm₁, locs, cells, slots⟩ { g with stack := rest } (.invokestatic index) mk argsL.toArray X₁ hg hsize hdg hW (X₁.named hnamed) (hpre vm₁ X₁.warmed) with ⟨v, B, X', hpost, hsteps⟩ | ⟨q, B, X', hpost, hsteps⟩
  · exact Or.inl ⟨v, vm₁, B, X₁.warmed, X', hpost, fun target h => hstep₁ _ fun acts => by rw [doInvoke_state]; exact hsteps.trans h⟩
  · exact Or.inr ⟨q, vm₁, B, X₁.warmed, X', hpost, hstep₁ _ fun acts => by rw [doInvoke_state]; exact hsteps⟩
theorem vx_callVW (X : Stand p l e R s m args below meth c T locs cells slots) (hexec : p.tables.exec = Jvm.exec) {own C : String} {index : Nat} {y : MethodName} {bytes : ByteArray} {maxL : Nat} {ret : Option FieldType} {hh : List (Nat × Nat × Nat × Nat)}
    (hown : s.vm.findClass own = some m.cls) (hlink : (Cond.methodLink own index y).before args s = true) (hinst : (Cond.instanceMethod y).before args s = true) (hsel : (Cond.selects C y y).before args s = true)
    (hcode : (Cond.codeWith y bytes maxL ret hh).before args s = true) (hy : y.cls ≠ "java/lang/invoke/MethodHandle" ∧ y.cls ≠ "java/lang/invoke/VarHandle")
    {W9 : Nat} {Pre : Pt → Array Value → Prop} {Post : Pt → Array Value → Option Value → Pt → Prop} (hK : Back l R p e below s args y 3 W9 Pre Post)
    {b : Addr} {cellB : Cell} (hcell : T.heap[b]? = some cellB) (hobj : cellB.vm.isStatics = false) (hcls : s.vm.findClass C = some cellB.cls)
    {g : JFrame} (hg : g.method = m) (hsize : g.locals.size = c.maxLocals) {argsL rest : List Value} (hlen : ∀ sig, parseMethodDescriptor y.desc = some sig → argsL.length = sig.parameters.length)
    (hstack : g.stack = argsL.reverse ++ .ref b :: rest) (hW : 2 * g.monitorRoom + (rest.map fun v => v.category).sum ≤ W9) (hdg : decode c.code g.pc = .ok (.invokevirtual index, 3))
    (hpre : ∀ vm₁, s.WarmedH vm₁ → Pre ⟨T.setVm vm₁, locs, cells, slots⟩ (Value.ref b :: argsL).toArray) :
    ∃ (v : Option Value) (vm₁ : Vm) (B : Pt), s.WarmedH vm₁ ∧ Stand p l e R s m args below meth c B.U B.locs B.cells B.slots ∧ Post ⟨T.setVm vm₁, locs, cells, slots⟩ (Value.ref b :: argsL).toArray v B ∧
      ∀ target, Steps p.tables e below (B.U.setTop { g with pc := g.pc + 3, stack := v.toList ++ rest }) target → Steps p.tables e below (T.setTop g) target := by
  obtain ⟨mk, methM, hnamed, hmethM, hstM, habM⟩ := Cond.instanceMethod_spec hinst
  obtain ⟨m8, methM', cM, hn8, hmethM', -, -, -, -, -, -, hsigM⟩ := Cond.codeWith_spec hcode
  cases Option.some.inj (hn8.symm.trans hnamed)
  cases hmethM.symm.trans hmethM'
  obtain ⟨c2, r2, m2, q1, q2, q3, q4, kP, hkP, hkPi⟩ := Cond.selects_spec hsel
  cases hcls.symm.trans q1
  cases (State.methodFound?_of_named hnamed hy).symm.trans q2
  cases hnamed.symm.trans q3
  have hselP : selectMethod e.platform s.vm cellB.cls mk = .method mk := by rw [Launch.admits_selectMethod X.admits]; exact q4
  obtain ⟨vm₁, X₁, hstep₁⟩ := X.invokevirtual hexec hown hlink hnamed hmethM hstM hkP hkPi hy (a := b) (cell := cellB) hcell
    (fun z h => by rw [h] at hobj; cases hobj) hselP hmethM habM hkP hkPi (g := g) hg (argsL := argsL) (rest := rest) (hlen _ hsigM) hstack hdg
  obtain ⟨v, B, X', hpost, hsteps⟩ := hK m meth c ⟨T.setVm vm₁, locs, cells, slots⟩ { g with stack := rest } (.invokevirtual index) mk (Value.ref b :: argsL).toArray X₁ hg hsize hdg hW (X₁.named hnamed) (hpre vm₁ X₁.warmed)
  exact ⟨v, vm₁, B, X₁.warmed, X', hpost, fun target h => hstep₁ _ fun acts => by rw [doInvoke_state]; exact hsteps.trans h⟩
abbrev vx_CVW (R : Room) (s : State) (args : Array Value) (own C : String) (index : Nat) (y : MethodName) (bytes : ByteArray) (maxL : Nat) (ret : Option FieldType) (hh : List (Nat × Nat × Nat × Nat)) (ws : List Cond) (rm : Room) (mc ms n : Nat) : Prop :=
  (rm.cells = mc ∧ rm.slots = ms ∧ rm.frames + 1 ≤ R.frames ∧ 8 + (maxL + 11) + rm.locals ≤ R.locals ∧ (∀ w ∈ ws, ∀ (a' : Array Value) (U : State), s.WarmedH U.vm → w.before a' U = true) ∧ Cond.codeWith y bytes maxL ret hh ∈ ws) ∧
  (Cond.codeWith y bytes maxL ret hh).before args s = true ∧ (Cond.initialized y.cls).before args s = true ∧ (y.cls ≠ "java/lang/invoke/MethodHandle" ∧ y.cls ≠ "java/lang/invoke/VarHandle") ∧
  (∀ sig, parseMethodDescriptor y.desc = some sig → n = sig.parameters.length) ∧ (Cond.methodLink own index y).before args s = true ∧ (Cond.instanceMethod y).before args s = true ∧ (Cond.selects C y y).before args s = true
theorem vx_cwVW {own C : String} {index maxL mc ms : Nat} {y : MethodName} {bytes : ByteArray} {ret : Option FieldType} {hh : List (Nat × Nat × Nat × Nat)} {Ts ws ws' : List Cond} {rm : Room} (n : Nat) (ht : ∀ w ∈ Ts, w.before args s = true) (hT : GoodIn Ts (wsV own index C y ws)) (hw : ws = Cond.codeWith y bytes maxL ret hh :: ws') (hrc : rm.cells = mc) (hrs : rm.slots = ms)
    (hd : y.cls = C ∧ y.cls ≠ "java/lang/invoke/MethodHandle" ∧ y.cls ≠ "java/lang/invoke/VarHandle" ∧ (parseMethodDescriptor y.desc).map (fun d => d.parameters.length) = some n) (hR : rm.frames + 1 ≤ R.frames ∧ 8 + (maxL + 11) + rm.locals ≤ R.locals) :
    vx_CVW R s args own C index y bytes maxL ret hh ws rm mc ms n := by
  obtain ⟨hC, hd⟩ := hd
  subst hC
  have ok : ∀ w ∈ wsV own index y.cls y ws, w.before args s = true := fun w h => ht w (hT w h).1
  have hG : GoodIn Ts ws := fun w h => hT w (by unfold wsV; exact List.mem_append_right _ h)
  have hc : Cond.codeWith y bytes maxL ret hh ∈ ws := by rw [hw]; exact List.mem_cons_self
  refine ⟨⟨hrc, hrs, hR.1, hR.2, pay_in ht hG, hc⟩, ht _ (hG _ hc).1, ok _ (by simp [wsV]), ⟨hd.1, hd.2.1⟩, fun sig h => ?_, ok _ (by simp [wsV]), ok _ (by simp [wsV]), ok _ (by simp [wsV])⟩
  have h2 := hd.2.2
  rw [h] at h2
  exact (Option.some.inj h2).symm
theorem vx_runVW {y : MethodName} {bytes cc : ByteArray} {maxL nL mc ms n index : Nat} {ret : Option FieldType} {hh : List (Nat × Nat × Nat × Nat)} {ws : List Cond} {rm : Room} {Pc : Array Value → State → Prop} {Qc : Array Value → State → Outcome → State → Prop} {free : Addr → Prop} {Ts : List Cond} {own C : String} {b : Addr} {As rest : List Value} {g : JFrame}
    (S : CallFix p m c cc nL s args Ts own) (hM : Met l y ws rm Pc Qc mc ms free) (cw : vx_CVW R s args own C index y bytes maxL ret hh ws rm mc ms n) (hp : PreV s H C b Pc As)
    (hg : g.method = m) (hn : As.length = n) (hsize : g.locals.size = nL) (hstack : g.stack = As.reverse ++ .ref b :: rest) (hW : 2 * g.monitorRoom + (rest.map fun v => v.category).sum ≤ 8) (hdg : decode cc g.pc = .ok (.invokevirtual index, 3)) (hf : cells + mc ≤ R.cells ∧ slots + ms ≤ R.slots) :
    va_Run p l e R s m args below meth c H locs cells slots mc ms g rest (Qc (Value.ref b :: As).toArray) free := by
  obtain ⟨⟨hrc, hrs, hfr, hlo, hws, hcw⟩, hcode, hini, hy, hlen, hl, hin, hse⟩ := cw
  have hK : Back l R p e below s args y 3 8 (PreOf R mc ms Pc) (PostOf Qc mc ms free) := va_backW (hh := hh) (bytes := bytes) (maxL := maxL) (ret := ret) hM hp.1 hrc hrs hfr hlo hws hcw (fun a' U hW => word_at hW (Or.inl (by first | rfl | simp [Cond.onTables, Cond.keeps, Cond.steady])) hini)
  obtain ⟨hx, hb, hml, ho, -⟩ := S
  obtain ⟨-, ⟨cellB, hcB, hoB, hclB⟩, hPc⟩ := hp
  intro T hT X
  obtain ⟨v, vm₁, ⟨U', l2, c2, s2⟩, hW₁, X', ⟨g', mk, t, L, e1, e2, hq, h1, hL, h2, h3⟩, st⟩ := vx_callVW X hx (C := C) (hh := hh) (bytes := bytes) (maxL := maxL) (ret := ret) ho hl hin hse hcode hy hK (by rw [hT]; exact hcB) hoB hclB hg (hsize.trans hml.symm) (argsL := As) (rest := rest) (fun sig h => hn.trans (hlen sig h)) hstack hW (by rw [hb]; exact hdg)
    (fun vm₁ hW₁ => ⟨hf.1, hf.2, hPc (T.setVm vm₁) hT hW₁⟩)
  dsimp only [Pt.U, Pt.locs, Pt.cells, Pt.slots] at X' e1 e2 h1 h2 h3 st
  subst h1; subst h2; subst h3
  exact ⟨v, (T.setVm vm₁).calling g' mk (Value.ref b :: As).toArray, t, U', L, hT, X', hL, e1, e2, hq, st⟩
section
variable {y : MethodName} {bytes cc : ByteArray} {maxL nL mc ms n index : Nat} {ret : Option FieldType} {ws : List Cond} {rm : Room} {Pc : Array Value → State → Prop} {Qc : Array Value → State → Outcome → State → Prop} {XC : String → State → State → Prop} {free : Addr → Prop} {Ts : List Cond} {own C : String} {b : Addr} {As rest : List Value} {g : JFrame}
theorem vx_runVX {hh : List (Nat × Nat × Nat × Nat)} (S : CallFix p m c cc nL s args Ts own) (hM : vx_Met l y ws rm Pc Qc XC mc ms free) (cw : vx_CVW R s args own C index y bytes maxL ret hh ws rm mc ms n) (hp : PreV s H C b Pc As)
    (hg : g.method = m) (hn : As.length = n) (hsize : g.locals.size = nL) (hstack : g.stack = As.reverse ++ .ref b :: rest) (hW : 2 * g.monitorRoom + (rest.map fun v => v.category).sum ≤ 8) (hdg : decode cc g.pc = .ok (.invokevirtual index, 3)) (hf : cells + mc ≤ R.cells ∧ slots + ms ≤ R.slots) :
    vx_Run p l e R s m args below meth c H locs cells slots mc ms g rest (Qc (Value.ref b :: As).toArray) XC free := by
  obtain ⟨⟨hrc, hrs, hfr, hlo, hws, hcw⟩, hcode, hini, hy, hlen, hl, hin, hse⟩ := cw
  have hK : vx_Back l R p e below s args y 3 8 (PreOf R mc ms Pc) (PostOf Qc mc ms free) (vx_Post XC mc ms free) := vx_backW (hh := hh) (bytes := bytes) (maxL := maxL) (ret := ret) hM hp.1 hrc hrs hfr hlo hws hcw (fun a' U hW => word_at hW (Or.inl (by first | rfl | simp [Cond.onTables, Cond.keeps, Cond.steady])) hini)
  obtain ⟨hx, hb, hml, ho, -⟩ := S
  obtain ⟨-, ⟨cellB, hcB, hoB, hclB⟩, hPc⟩ := hp
  intro T hT X
  rcases vx_callVX X hx (C := C) (hh := hh) (bytes := bytes) (maxL := maxL) (ret := ret) ho hl hin hse hcode hy hK (by rw [hT]; exact hcB) hoB hclB hg (hsize.trans hml.symm) (argsL := As) (rest := rest) (fun sig h => hn.trans (hlen sig h)) hstack hW (by rw [hb]; exact hdg)
    (fun vm₁ hW₁ => ⟨hf.1, hf.2, hPc (T.setVm vm₁) hT hW₁⟩) with ⟨v, vm₁, ⟨U', l2, c2, s2⟩, hW₁, X', ⟨g', mk, t, L, e1, e2, hq, h1, hL, h2, h3⟩, st⟩ | ⟨q, vm₁, ⟨U', l2, c2, s2⟩, hW₁, X', ⟨g', mk, t, L, E, ce, e1, e2, hq, hce, hcv, hcl, h1, hL, h2, h3⟩, st⟩
  · dsimp only [Pt.U, Pt.locs, Pt.cells, Pt.slots] at X' e1 e2 h1 h2 h3 st
    subst h1; subst h2; subst h3
    exact Or.inl ⟨v, (T.setVm vm₁).calling g' mk (Value.ref b :: As).toArray, t, U', L, hT, X', hL, e1, e2, hq, st⟩
  · dsimp only [Pt.U, Pt.locs, Pt.cells, Pt.slots] at X' e1 e2 h1 h2 h3 st hcl
    subst h1; subst h2; subst h3
    exact Or.inr ⟨q, (T.setVm vm₁).calling g' mk (Value.ref b :: As).toArray, t, U', L, E, ce, hT, X', hL, e1, e2, hq, hce, hcv, vx_cls hW₁ hcl, st⟩
theorem vx_runSX {hh : List (Nat × Nat × Nat × Nat)} (S : CallFix p m c cc nL s args Ts own) (hM : vx_Met l y ws rm Pc Qc XC mc ms free) (cw : vx_CSW R s args own index y bytes maxL ret hh ws rm mc ms n) (hp : PreS s H Pc As)
    (hg : g.method = m) (hn : As.length = n) (hsize : g.locals.size = nL) (hstack : g.stack = As.reverse ++ rest) (hW : 2 * g.monitorRoom + (rest.map fun v => v.category).sum ≤ 8) (hdg : decode cc g.pc = .ok (.invokestatic index, 3)) (hf : cells + mc ≤ R.cells ∧ slots + ms ≤ R.slots) :
    vx_Run p l e R s m args below meth c H locs cells slots mc ms g rest (Qc As.toArray) XC free := by
  obtain ⟨⟨hrc, hrs, hfr, hlo, hws, hcw⟩, hcode, hini, hy, hlen, hl, hstt⟩ := cw
  have hK : vx_Back l R p e below s args y 3 8 (PreOf R mc ms Pc) (PostOf Qc mc ms free) (vx_Post XC mc ms free) := vx_backW (hh := hh) (bytes := bytes) (maxL := maxL) (ret := ret) hM hp.1 hrc hrs hfr hlo hws hcw (fun a' U hW => word_at hW (Or.inl (by first | rfl | simp [Cond.onTables, Cond.keeps, Cond.steady])) hini)
  obtain ⟨hx, hb, hml, ho, -⟩ := S
  intro T hT X
  rcases vx_callSX X hx (hh := hh) (bytes := bytes) (maxL := maxL) (ret := ret) ho hl hstt hini hcode hy hK hg (hsize.trans hml.symm) (argsL := As) (rest := rest) (fun sig h => hn.trans (hlen sig h)) hstack hW (by rw [hb]; exact hdg)
    (fun vm₁ hW₁ => ⟨hf.1, hf.2, hp.2 (T.setVm vm₁) hT hW₁⟩) with ⟨v, vm₁, ⟨U', l2, c2, s2⟩, hW₁, X', ⟨g', mk, t, L, e1, e2, hq, h1, hL, h2, h3⟩, st⟩ | ⟨q, vm₁, ⟨U', l2, c2, s2⟩, hW₁, X', ⟨g', mk, t, L, E, ce, e1, e2, hq, hce, hcv, hcl, h1, hL, h2, h3⟩, st⟩
  · dsimp only [Pt.U, Pt.locs, Pt.cells, Pt.slots] at X' e1 e2 h1 h2 h3 st
    subst h1; subst h2; subst h3
    exact Or.inl ⟨v, (T.setVm vm₁).calling g' mk As.toArray, t, U', L, hT, X', hL, e1, e2, hq, st⟩
  · dsimp only [Pt.U, Pt.locs, Pt.cells, Pt.slots] at X' e1 e2 h1 h2 h3 st hcl
    subst h1; subst h2; subst h3
    exact Or.inr ⟨q, (T.setVm vm₁).calling g' mk As.toArray, t, U', L, E, ce, hT, X', hL, e1, e2, hq, hce, hcv, vx_cls hW₁ hcl, st⟩
end
end VXH
theorem vx_ofWH {l : Launch} {y : MethodName} {ws ws' : List Cond} {rm : Room} {Pc : Array Value → State → Prop} {Qc : Array Value → State → Outcome → State → Prop} {XC : String → State → State → Prop} {mc ms : Nat} {free : Addr → Prop} {cc : ByteArray} {maxL : Nat} {ret : Option FieldType} {hh : List (Nat × Nat × Nat × Nat)}
    (hy : plainName y.cls = true) (hw : ws = Cond.codeWith y cc maxL ret hh :: ws')
    (body : ∀ p e s m args below meth c s₁, BodyLoose p l y (headSpec ws rm) cc maxL ret e s m args below meth c s₁ → c.maxLocals = maxL → Pc args s →
      W p l e (headSpec ws rm).room s m args below meth c s.heap [] 0 0 (vx_MQ below Qc XC args s mc ms free) (entryFrame m args maxL)) : vx_Met l y ws rm Pc Qc XC mc ms free := by
  refine MetFree.of_bodyS (code := cc) (maxLocals := maxL) (ret := ret) hy ?_ ?_
  · intro args s m h hn
    obtain ⟨m9, meth, c, hn9, h1, h2, h3, h4, -, h5, h6, -⟩ := Cond.codeWith_spec (atoms_spec (ws := ws) h _ (by rw [hw]; exact List.mem_cons_self))
    cases hn.symm.trans hn9
    exact ⟨meth, c, h1, h2, h3, h4, h5, h6⟩
  · intro p e s m args below meth c s₁ B hml hP _
    have hh0 : s₁.heap = s.heap := by rw [B.state]; rfl
    obtain ⟨t, a1, o, b1, b2, b3⟩ := body p e s m args below meth c s₁ B hml hP s₁ hh0 (Stand.of_body B)
    exact ⟨t, o, a1, b1, b2, b3⟩
/-! ===== END ===== -/
end
section
/-! ===== BEGIN printed: names, fields, word lists, decode rows ===== -/
def RX0 : String := "Meeplehouse$Hall"
def TX0 : u_T := fun k => match k with
  | 0 => ("Meeplehouse$Hall", "minute", "I", false)
  | 1 => ("Meeplehouse$Hall", "tables", "I", false)
  | 2 => ("Meeplehouse$Hall", "groups", "I", false)
  | 3 => ("Meeplehouse$Hall", "seats", "LMeeplehouse$Row;", true)
  | 4 => ("Meeplehouse$Hall", "sitter", "LMeeplehouse$Row;", true)
  | 5 => ("Meeplehouse$Hall", "players", "LMeeplehouse$Row;", true)
  | 6 => ("Meeplehouse$Hall", "stay", "LMeeplehouse$Row;", true)
  | 7 => ("Meeplehouse$Hall", "end", "LMeeplehouse$Row;", true)
  | _ => ("Meeplehouse$Hall", "state", "LMeeplehouse$Row;", true)
def tyX0 : Nat → FieldType := fun k => match k with
  | 0 => .int
  | 1 => .int
  | 2 => .int
  | 3 => .object "Meeplehouse$Row"
  | 4 => .object "Meeplehouse$Row"
  | 5 => .object "Meeplehouse$Row"
  | 6 => .object "Meeplehouse$Row"
  | 7 => .object "Meeplehouse$Row"
  | _ => .object "Meeplehouse$Row"
abbrev wsX00 : List Cond := u_ws RX0 TX0 9
theorem nmX0 : ∀ a, a < 9 → ∀ b, b < 9 → a ≠ b → (TX0 a).2.1 ≠ (TX0 b).2.1 := by decide +kernel
theorem tyX0_ok : ∀ k, k < 9 → parseFieldDescriptor (TX0 k).2.2.1 = some (tyX0 k) := by decide +kernel
abbrev cX0_init : ByteArray := prog_2_method_1_code
def yX0_init : MethodName := ⟨RX0, "<init>", "()V"⟩
abbrev cX0_putTable : ByteArray := prog_2_method_2_code
def yX0_putTable : MethodName := ⟨RX0, "putTable", "(I)I"⟩
abbrev cX0_welcome : ByteArray := prog_2_method_3_code
def yX0_welcome : MethodName := ⟨RX0, "welcome", "(II)I"⟩
abbrev cX0_dismiss : ByteArray := prog_2_method_4_code
def yX0_dismiss : MethodName := ⟨RX0, "dismiss", "(I)I"⟩
abbrev cX0_seatWaiting : ByteArray := prog_2_method_5_code
def yX0_seatWaiting : MethodName := ⟨RX0, "seatWaiting", "()I"⟩
abbrev cX0_seatIfPossible : ByteArray := prog_2_method_6_code
def yX0_seatIfPossible : MethodName := ⟨RX0, "seatIfPossible", "(I)Z"⟩
abbrev cX0_seat : ByteArray := prog_2_method_7_code
def yX0_seat : MethodName := ⟨RX0, "seat", "(III)V"⟩
abbrev cX0_leastWaste : ByteArray := prog_2_method_8_code
def yX0_leastWaste : MethodName := ⟨RX0, "leastWaste", "(I)I"⟩
abbrev cX0_wasteAt : ByteArray := prog_2_method_9_code
def yX0_wasteAt : MethodName := ⟨RX0, "wasteAt", "(III)I"⟩
abbrev cX0_leastWasteOfSets : ByteArray := prog_2_method_10_code
def yX0_leastWasteOfSets : MethodName := ⟨RX0, "leastWasteOfSets", "(I)I"⟩
abbrev cX0_wasteOfSet : ByteArray := prog_2_method_11_code
def yX0_wasteOfSet : MethodName := ⟨RX0, "wasteOfSet", "(II)I"⟩
abbrev cX0_lesser : ByteArray := prog_2_method_12_code
def yX0_lesser : MethodName := ⟨RX0, "lesser", "(II)I"⟩
abbrev cX0_firstTable : ByteArray := prog_2_method_13_code
def yX0_firstTable : MethodName := ⟨RX0, "firstTable", "(I)I"⟩
abbrev cX0_countTables : ByteArray := prog_2_method_14_code
def yX0_countTables : MethodName := ⟨RX0, "countTables", "(I)I"⟩
abbrev cX0_countWaiting : ByteArray := prog_2_method_15_code
def yX0_countWaiting : MethodName := ⟨RX0, "countWaiting", "()I"⟩
abbrev cX0_isSeated : ByteArray := prog_2_method_16_code
def yX0_isSeated : MethodName := ⟨RX0, "isSeated", "(I)Z"⟩
abbrev cX0_isGone : ByteArray := prog_2_method_17_code
def yX0_isGone : MethodName := ⟨RX0, "isGone", "(I)Z"⟩
abbrev cX0_minutesLeft : ByteArray := prog_2_method_18_code
def yX0_minutesLeft : MethodName := ⟨RX0, "minutesLeft", "(I)I"⟩
def RX1 : String := "Meeplehouse$Referee"
def TX1 : u_T := fun k => match k with
  | 0 => ("Meeplehouse$Referee", "rules", "LMeeplehouse$Row;", true)
  | 1 => ("Meeplehouse$Referee", "parents", "LMeeplehouse$Row;", true)
  | 2 => ("Meeplehouse$Referee", "tests", "LMeeplehouse$Row;", true)
  | 3 => ("Meeplehouse$Referee", "values", "LMeeplehouse$Row;", true)
  | _ => ("Meeplehouse$Referee", "rulings", "LMeeplehouse$Row;", true)
def tyX1 : Nat → FieldType := fun k => match k with
  | 0 => .object "Meeplehouse$Row"
  | 1 => .object "Meeplehouse$Row"
  | 2 => .object "Meeplehouse$Row"
  | 3 => .object "Meeplehouse$Row"
  | _ => .object "Meeplehouse$Row"
abbrev wsX10 : List Cond := u_ws RX1 TX1 5
theorem nmX1 : ∀ a, a < 5 → ∀ b, b < 5 → a ≠ b → (TX1 a).2.1 ≠ (TX1 b).2.1 := by decide +kernel
theorem tyX1_ok : ∀ k, k < 5 → parseFieldDescriptor (TX1 k).2.2.1 = some (tyX1 k) := by decide +kernel
abbrev cX1_init : ByteArray := prog_3_method_1_code
def yX1_init : MethodName := ⟨RX1, "<init>", "()V"⟩
abbrev cX1_rulesOf : ByteArray := prog_3_method_2_code
def yX1_rulesOf : MethodName := ⟨RX1, "rulesOf", "(I)I"⟩
abbrev cX1_putRule : ByteArray := prog_3_method_3_code
def yX1_putRule : MethodName := ⟨RX1, "putRule", "(IIIII)I"⟩
abbrev cX1_parentOf : ByteArray := prog_3_method_4_code
def yX1_parentOf : MethodName := ⟨RX1, "parentOf", "(II)I"⟩
abbrev cX1_holding : ByteArray := prog_3_method_5_code
def yX1_holding : MethodName := ⟨RX1, "holding", "(IIII)I"⟩
abbrev cX1_holds : ByteArray := prog_3_method_6_code
def yX1_holds : MethodName := ⟨RX1, "holds", "(IIIII)Z"⟩
abbrev cX1_rulingGoingDown : ByteArray := prog_3_method_7_code
def yX1_rulingGoingDown : MethodName := ⟨RX1, "rulingGoingDown", "(II)I"⟩
abbrev cX1_firstHolding : ByteArray := prog_3_method_8_code
def yX1_firstHolding : MethodName := ⟨RX1, "firstHolding", "(III)I"⟩
abbrev cX1_rulingGoingUp : ByteArray := prog_3_method_9_code
def yX1_rulingGoingUp : MethodName := ⟨RX1, "rulingGoingUp", "(II)I"⟩
abbrev cX1_decides : ByteArray := prog_3_method_10_code
def yX1_decides : MethodName := ⟨RX1, "decides", "(III)Z"⟩
abbrev cX1_holdsAmong : ByteArray := prog_3_method_11_code
def yX1_holdsAmong : MethodName := ⟨RX1, "holdsAmong", "(IIII)Z"⟩
abbrev cX1_deepest : ByteArray := prog_3_method_12_code
def yX1_deepest : MethodName := ⟨RX1, "deepest", "(I)I"⟩
abbrev cX1_levelOf : ByteArray := prog_3_method_13_code
def yX1_levelOf : MethodName := ⟨RX1, "levelOf", "(II)I"⟩
def RX2 : String := "Meeplehouse$Row"
def TX2 : u_T := fun k => match k with
  | _ => ("Meeplehouse$Row", "cells", "[I", true)
def tyX2 : Nat → FieldType := fun k => match k with
  | _ => .array .int
abbrev wsX20 : List Cond := u_ws RX2 TX2 1
theorem nmX2 : ∀ a, a < 1 → ∀ b, b < 1 → a ≠ b → (TX2 a).2.1 ≠ (TX2 b).2.1 := by decide +kernel
theorem tyX2_ok : ∀ k, k < 1 → parseFieldDescriptor (TX2 k).2.2.1 = some (tyX2 k) := by decide +kernel
abbrev cX2_init : ByteArray := prog_4_method_1_code
def yX2_init : MethodName := ⟨RX2, "<init>", "(II)V"⟩
abbrev cX2_at : ByteArray := prog_4_method_2_code
def yX2_at : MethodName := ⟨RX2, "at", "(I)I"⟩
abbrev cX2_put : ByteArray := prog_4_method_3_code
def yX2_put : MethodName := ⟨RX2, "put", "(II)V"⟩
def RX3 : String := "Meeplehouse$Shelf"
def TX3 : u_T := fun k => match k with
  | 0 => ("Meeplehouse$Shelf", "titles", "I", false)
  | 1 => ("Meeplehouse$Shelf", "copies", "I", false)
  | 2 => ("Meeplehouse$Shelf", "least", "LMeeplehouse$Row;", true)
  | 3 => ("Meeplehouse$Shelf", "most", "LMeeplehouse$Row;", true)
  | 4 => ("Meeplehouse$Shelf", "minutes", "LMeeplehouse$Row;", true)
  | 5 => ("Meeplehouse$Shelf", "full", "LMeeplehouse$Row;", true)
  | 6 => ("Meeplehouse$Shelf", "titleOf", "LMeeplehouse$Row;", true)
  | 7 => ("Meeplehouse$Shelf", "holder", "LMeeplehouse$Row;", true)
  | 8 => ("Meeplehouse$Shelf", "borrower", "LMeeplehouse$Row;", true)
  | 9 => ("Meeplehouse$Shelf", "lent", "LMeeplehouse$Row;", true)
  | _ => ("Meeplehouse$Shelf", "has", "LMeeplehouse$Row;", true)
def tyX3 : Nat → FieldType := fun k => match k with
  | 0 => .int
  | 1 => .int
  | 2 => .object "Meeplehouse$Row"
  | 3 => .object "Meeplehouse$Row"
  | 4 => .object "Meeplehouse$Row"
  | 5 => .object "Meeplehouse$Row"
  | 6 => .object "Meeplehouse$Row"
  | 7 => .object "Meeplehouse$Row"
  | 8 => .object "Meeplehouse$Row"
  | 9 => .object "Meeplehouse$Row"
  | _ => .object "Meeplehouse$Row"
abbrev wsX30 : List Cond := u_ws RX3 TX3 11
theorem nmX3 : ∀ a, a < 11 → ∀ b, b < 11 → a ≠ b → (TX3 a).2.1 ≠ (TX3 b).2.1 := by decide +kernel
theorem tyX3_ok : ∀ k, k < 11 → parseFieldDescriptor (TX3 k).2.2.1 = some (tyX3 k) := by decide +kernel
abbrev cX3_init : ByteArray := prog_5_method_1_code
def yX3_init : MethodName := ⟨RX3, "<init>", "()V"⟩
abbrev cX3_putTitle : ByteArray := prog_5_method_2_code
def yX3_putTitle : MethodName := ⟨RX3, "putTitle", "(III)I"⟩
abbrev cX3_setFull : ByteArray := prog_5_method_3_code
def yX3_setFull : MethodName := ⟨RX3, "setFull", "(III)V"⟩
abbrev cX3_putCopy : ByteArray := prog_5_method_4_code
def yX3_putCopy : MethodName := ⟨RX3, "putCopy", "(I)I"⟩
abbrev cX3_heldBy : ByteArray := prog_5_method_5_code
def yX3_heldBy : MethodName := ⟨RX3, "heldBy", "(I)I"⟩
abbrev cX3_place : ByteArray := prog_5_method_6_code
def yX3_place : MethodName := ⟨RX3, "place", "(I)I"⟩
abbrev cX3_count : ByteArray := prog_5_method_7_code
def yX3_count : MethodName := ⟨RX3, "count", "(II)I"⟩
abbrev cX3_lack : ByteArray := prog_5_method_8_code
def yX3_lack : MethodName := ⟨RX3, "lack", "(II)I"⟩
abbrev cX3_change : ByteArray := prog_5_method_9_code
def yX3_change : MethodName := ⟨RX3, "change", "(III)V"⟩
abbrev cX3_suits : ByteArray := prog_5_method_10_code
def yX3_suits : MethodName := ⟨RX3, "suits", "(III)Z"⟩
abbrev cX3_titleInPlace : ByteArray := prog_5_method_11_code
def yX3_titleInPlace : MethodName := ⟨RX3, "titleInPlace", "(II)I"⟩
abbrev cX3_countAhead : ByteArray := prog_5_method_12_code
def yX3_countAhead : MethodName := ⟨RX3, "countAhead", "(II)I"⟩
abbrev cX3_bestCopy : ByteArray := prog_5_method_13_code
def yX3_bestCopy : MethodName := ⟨RX3, "bestCopy", "(I)I"⟩
abbrev cX3_countLenders : ByteArray := prog_5_method_14_code
def yX3_countLenders : MethodName := ⟨RX3, "countLenders", "(I)I"⟩
abbrev cX3_mayLend : ByteArray := prog_5_method_15_code
def yX3_mayLend : MethodName := ⟨RX3, "mayLend", "(II)Z"⟩
abbrev cX3_handOut : ByteArray := prog_5_method_16_code
def yX3_handOut : MethodName := ⟨RX3, "handOut", "(II)V"⟩
abbrev cX3_lend : ByteArray := prog_5_method_17_code
def yX3_lend : MethodName := ⟨RX3, "lend", "(IIII)V"⟩
abbrev cX3_takeBack : ByteArray := prog_5_method_18_code
def yX3_takeBack : MethodName := ⟨RX3, "takeBack", "(III)I"⟩
abbrev cX3_closeLoans : ByteArray := prog_5_method_19_code
def yX3_closeLoans : MethodName := ⟨RX3, "closeLoans", "(I)I"⟩
abbrev cX3_piecesLentTo : ByteArray := prog_5_method_20_code
def yX3_piecesLentTo : MethodName := ⟨RX3, "piecesLentTo", "(I)I"⟩
def RX4 : String := "Meeplehouse"
def TX4 : u_T := fun k => match k with
  | 0 => ("Meeplehouse", "hall", "LMeeplehouse$Hall;", true)
  | 1 => ("Meeplehouse", "shelf", "LMeeplehouse$Shelf;", true)
  | _ => ("Meeplehouse", "referee", "LMeeplehouse$Referee;", true)
def tyX4 : Nat → FieldType := fun k => match k with
  | 0 => .object "Meeplehouse$Hall"
  | 1 => .object "Meeplehouse$Shelf"
  | _ => .object "Meeplehouse$Referee"
abbrev wsX40 : List Cond := u_ws RX4 TX4 3
theorem nmX4 : ∀ a, a < 3 → ∀ b, b < 3 → a ≠ b → (TX4 a).2.1 ≠ (TX4 b).2.1 := by decide +kernel
theorem tyX4_ok : ∀ k, k < 3 → parseFieldDescriptor (TX4 k).2.2.1 = some (tyX4 k) := by decide +kernel
abbrev cX4_init : ByteArray := prog_1_method_1_code
def yX4_init : MethodName := ⟨RX4, "<init>", "()V"⟩
abbrev cX4_pass : ByteArray := prog_1_method_2_code
def yX4_pass : MethodName := ⟨RX4, "pass", "(I)I"⟩
abbrev cX4_now : ByteArray := prog_1_method_3_code
def yX4_now : MethodName := ⟨RX4, "now", "()I"⟩
abbrev cX4_addTable : ByteArray := prog_1_method_4_code
def yX4_addTable : MethodName := ⟨RX4, "addTable", "(I)I"⟩
abbrev cX4_addTitle : ByteArray := prog_1_method_5_code
def yX4_addTitle : MethodName := ⟨RX4, "addTitle", "(IIIIIII)I"⟩
abbrev cX4_addCopy : ByteArray := prog_1_method_6_code
def yX4_addCopy : MethodName := ⟨RX4, "addCopy", "(I)I"⟩
abbrev cX4_addRule : ByteArray := prog_1_method_7_code
def yX4_addRule : MethodName := ⟨RX4, "addRule", "(IIIII)I"⟩
abbrev cX4_arrive : ByteArray := prog_1_method_8_code
def yX4_arrive : MethodName := ⟨RX4, "arrive", "(II)I"⟩
abbrev cX4_leave : ByteArray := prog_1_method_9_code
def yX4_leave : MethodName := ⟨RX4, "leave", "(I)I"⟩
abbrev cX4_tableOf : ByteArray := prog_1_method_10_code
def yX4_tableOf : MethodName := ⟨RX4, "tableOf", "(I)I"⟩
abbrev cX4_tablesOf : ByteArray := prog_1_method_11_code
def yX4_tablesOf : MethodName := ⟨RX4, "tablesOf", "(I)I"⟩
abbrev cX4_waiting : ByteArray := prog_1_method_12_code
def yX4_waiting : MethodName := ⟨RX4, "waiting", "()I"⟩
abbrev cX4_waste : ByteArray := prog_1_method_13_code
def yX4_waste : MethodName := ⟨RX4, "waste", "(I)I"⟩
abbrev cX4_wasteByAll : ByteArray := prog_1_method_14_code
def yX4_wasteByAll : MethodName := ⟨RX4, "wasteByAll", "(I)I"⟩
abbrev cX4_left : ByteArray := prog_1_method_15_code
def yX4_left : MethodName := ⟨RX4, "left", "(I)I"⟩
abbrev cX4_offers : ByteArray := prog_1_method_16_code
def yX4_offers : MethodName := ⟨RX4, "offers", "(I)I"⟩
abbrev cX4_offerAt : ByteArray := prog_1_method_17_code
def yX4_offerAt : MethodName := ⟨RX4, "offerAt", "(II)I"⟩
abbrev cX4_serve : ByteArray := prog_1_method_18_code
def yX4_serve : MethodName := ⟨RX4, "serve", "(II)I"⟩
abbrev cX4_giveBack : ByteArray := prog_1_method_19_code
def yX4_giveBack : MethodName := ⟨RX4, "giveBack", "(III)I"⟩
abbrev cX4_found : ByteArray := prog_1_method_20_code
def yX4_found : MethodName := ⟨RX4, "found", "(III)I"⟩
abbrev cX4_pieces : ByteArray := prog_1_method_21_code
def yX4_pieces : MethodName := ⟨RX4, "pieces", "(II)I"⟩
abbrev cX4_stateOf : ByteArray := prog_1_method_22_code
def yX4_stateOf : MethodName := ⟨RX4, "stateOf", "(I)I"⟩
abbrev cX4_lenders : ByteArray := prog_1_method_23_code
def yX4_lenders : MethodName := ⟨RX4, "lenders", "(I)I"⟩
abbrev cX4_copyOf : ByteArray := prog_1_method_24_code
def yX4_copyOf : MethodName := ⟨RX4, "copyOf", "(I)I"⟩
abbrev cX4_ruling : ByteArray := prog_1_method_25_code
def yX4_ruling : MethodName := ⟨RX4, "ruling", "(I)I"⟩
abbrev cX4_rulingFromBelow : ByteArray := prog_1_method_26_code
def yX4_rulingFromBelow : MethodName := ⟨RX4, "rulingFromBelow", "(I)I"⟩
abbrev cX4_depth : ByteArray := prog_1_method_27_code
def yX4_depth : MethodName := ⟨RX4, "depth", "(I)I"⟩
abbrev cX4_isOffered : ByteArray := prog_1_method_28_code
def yX4_isOffered : MethodName := ⟨RX4, "isOffered", "(II)Z"⟩
abbrev cX4_offeredTitles : ByteArray := prog_1_method_29_code
def yX4_offeredTitles : MethodName := ⟨RX4, "offeredTitles", "(I)I"⟩
abbrev cX4_playedBy : ByteArray := prog_1_method_30_code
def yX4_playedBy : MethodName := ⟨RX4, "playedBy", "(I)I"⟩
abbrev cX4_holdingFor : ByteArray := prog_1_method_31_code
def yX4_holdingFor : MethodName := ⟨RX4, "holdingFor", "(I)I"⟩
abbrev cX4_checkIndex : ByteArray := prog_1_method_32_code
def yX4_checkIndex : MethodName := ⟨RX4, "checkIndex", "(II)V"⟩
abbrev cX4_checkRange : ByteArray := prog_1_method_33_code
def yX4_checkRange : MethodName := ⟨RX4, "checkRange", "(III)V"⟩
abbrev cX4_checkState : ByteArray := prog_1_method_34_code
def yX4_checkState : MethodName := ⟨RX4, "checkState", "(Z)V"⟩
abbrev cX4_contains : ByteArray := prog_1_method_35_code
def yX4_contains : MethodName := ⟨RX4, "contains", "(II)Z"⟩
def RX5 : String := "MeeplehouseModel"
def TX5 : u_T := fun k => match k with
  | 0 => ("MeeplehouseModel", "thrown", "I", false)
  | 1 => ("MeeplehouseModel", "now", "I", false)
  | 2 => ("MeeplehouseModel", "seats", "[I", true)
  | 3 => ("MeeplehouseModel", "at", "[I", true)
  | 4 => ("MeeplehouseModel", "tables", "I", false)
  | 5 => ("MeeplehouseModel", "players", "[I", true)
  | 6 => ("MeeplehouseModel", "stay", "[I", true)
  | 7 => ("MeeplehouseModel", "state", "[I", true)
  | 8 => ("MeeplehouseModel", "since", "[I", true)
  | 9 => ("MeeplehouseModel", "copy", "[I", true)
  | 10 => ("MeeplehouseModel", "groups", "I", false)
  | 11 => ("MeeplehouseModel", "least", "[I", true)
  | 12 => ("MeeplehouseModel", "most", "[I", true)
  | 13 => ("MeeplehouseModel", "minutes", "[I", true)
  | 14 => ("MeeplehouseModel", "whole", "[I", true)
  | 15 => ("MeeplehouseModel", "titles", "I", false)
  | 16 => ("MeeplehouseModel", "title", "[I", true)
  | 17 => ("MeeplehouseModel", "where", "[I", true)
  | 18 => ("MeeplehouseModel", "pieces", "[I", true)
  | 19 => ("MeeplehouseModel", "copies", "I", false)
  | 20 => ("MeeplehouseModel", "borrower", "[I", true)
  | 21 => ("MeeplehouseModel", "kindLent", "[I", true)
  | 22 => ("MeeplehouseModel", "lender", "[I", true)
  | 23 => ("MeeplehouseModel", "lent", "[I", true)
  | 24 => ("MeeplehouseModel", "loans", "I", false)
  | 25 => ("MeeplehouseModel", "parent", "[I", true)
  | 26 => ("MeeplehouseModel", "test", "[I", true)
  | 27 => ("MeeplehouseModel", "value", "[I", true)
  | 28 => ("MeeplehouseModel", "ruling", "[I", true)
  | 29 => ("MeeplehouseModel", "rules", "[I", true)
  | 30 => ("MeeplehouseModel", "firstTable", "I", false)
  | 31 => ("MeeplehouseModel", "manyTables", "I", false)
  | _ => ("MeeplehouseModel", "tooMany", "I", false)
def tyX5 : Nat → FieldType := fun k => match k with
  | 0 => .int
  | 1 => .int
  | 2 => .array .int
  | 3 => .array .int
  | 4 => .int
  | 5 => .array .int
  | 6 => .array .int
  | 7 => .array .int
  | 8 => .array .int
  | 9 => .array .int
  | 10 => .int
  | 11 => .array .int
  | 12 => .array .int
  | 13 => .array .int
  | 14 => .array .int
  | 15 => .int
  | 16 => .array .int
  | 17 => .array .int
  | 18 => .array .int
  | 19 => .int
  | 20 => .array .int
  | 21 => .array .int
  | 22 => .array .int
  | 23 => .array .int
  | 24 => .int
  | 25 => .array .int
  | 26 => .array .int
  | 27 => .array .int
  | 28 => .array .int
  | 29 => .array .int
  | 30 => .int
  | 31 => .int
  | _ => .int
abbrev wsX50 : List Cond := u_ws RX5 TX5 33
theorem nmX5 : ∀ a, a < 33 → ∀ b, b < 33 → a ≠ b → (TX5 a).2.1 ≠ (TX5 b).2.1 := by decide +kernel
theorem tyX5_ok : ∀ k, k < 33 → parseFieldDescriptor (TX5 k).2.2.1 = some (tyX5 k) := by decide +kernel
abbrev cX5_init : ByteArray := prog_7_method_1_code
def yX5_init : MethodName := ⟨RX5, "<init>", "()V"⟩
abbrev cX5_thrown : ByteArray := prog_7_method_2_code
def yX5_thrown : MethodName := ⟨RX5, "thrown", "()I"⟩
abbrev cX5_isFine : ByteArray := prog_7_method_3_code
def yX5_isFine : MethodName := ⟨RX5, "isFine", "(I)Z"⟩
abbrev cX5_isIn : ByteArray := prog_7_method_4_code
def yX5_isIn : MethodName := ⟨RX5, "isIn", "(III)Z"⟩
abbrev cX5_isTitle : ByteArray := prog_7_method_5_code
def yX5_isTitle : MethodName := ⟨RX5, "isTitle", "(I)Z"⟩
abbrev cX5_isCopy : ByteArray := prog_7_method_6_code
def yX5_isCopy : MethodName := ⟨RX5, "isCopy", "(I)Z"⟩
abbrev cX5_isKind : ByteArray := prog_7_method_7_code
def yX5_isKind : MethodName := ⟨RX5, "isKind", "(I)Z"⟩
abbrev cX5_isGroup : ByteArray := prog_7_method_8_code
def yX5_isGroup : MethodName := ⟨RX5, "isGroup", "(I)Z"⟩
abbrev cX5_pass : ByteArray := prog_7_method_9_code
def yX5_pass : MethodName := ⟨RX5, "pass", "(I)I"⟩
abbrev cX5_now : ByteArray := prog_7_method_10_code
def yX5_now : MethodName := ⟨RX5, "now", "()I"⟩
abbrev cX5_addTable : ByteArray := prog_7_method_11_code
def yX5_addTable : MethodName := ⟨RX5, "addTable", "(I)I"⟩
abbrev cX5_arePieces : ByteArray := prog_7_method_12_code
def yX5_arePieces : MethodName := ⟨RX5, "arePieces", "(I)Z"⟩
abbrev cX5_addTitle : ByteArray := prog_7_method_13_code
def yX5_addTitle : MethodName := ⟨RX5, "addTitle", "(IIIIIII)I"⟩
abbrev cX5_addCopy : ByteArray := prog_7_method_14_code
def yX5_addCopy : MethodName := ⟨RX5, "addCopy", "(I)I"⟩
abbrev cX5_addRule : ByteArray := prog_7_method_15_code
def yX5_addRule : MethodName := ⟨RX5, "addRule", "(IIIII)I"⟩
abbrev cX5_finds : ByteArray := prog_7_method_16_code
def yX5_finds : MethodName := ⟨RX5, "finds", "(I)Z"⟩
abbrev cX5_sits : ByteArray := prog_7_method_17_code
def yX5_sits : MethodName := ⟨RX5, "sits", "(I)Z"⟩
abbrev cX5_arrive : ByteArray := prog_7_method_18_code
def yX5_arrive : MethodName := ⟨RX5, "arrive", "(II)I"⟩
abbrev cX5_leave : ByteArray := prog_7_method_19_code
def yX5_leave : MethodName := ⟨RX5, "leave", "(I)I"⟩
abbrev cX5_tableOf : ByteArray := prog_7_method_20_code
def yX5_tableOf : MethodName := ⟨RX5, "tableOf", "(I)I"⟩
abbrev cX5_tablesOf : ByteArray := prog_7_method_21_code
def yX5_tablesOf : MethodName := ⟨RX5, "tablesOf", "(I)I"⟩
abbrev cX5_waiting : ByteArray := prog_7_method_22_code
def yX5_waiting : MethodName := ⟨RX5, "waiting", "()I"⟩
abbrev cX5_wasteNow : ByteArray := prog_7_method_23_code
def yX5_wasteNow : MethodName := ⟨RX5, "wasteNow", "(I)I"⟩
abbrev cX5_waste : ByteArray := prog_7_method_24_code
def yX5_waste : MethodName := ⟨RX5, "waste", "(I)I"⟩
abbrev cX5_wasteByAll : ByteArray := prog_7_method_25_code
def yX5_wasteByAll : MethodName := ⟨RX5, "wasteByAll", "(I)I"⟩
abbrev cX5_leftOf : ByteArray := prog_7_method_26_code
def yX5_leftOf : MethodName := ⟨RX5, "leftOf", "(I)I"⟩
abbrev cX5_left : ByteArray := prog_7_method_27_code
def yX5_left : MethodName := ⟨RX5, "left", "(I)I"⟩
abbrev cX5_makes : ByteArray := prog_7_method_28_code
def yX5_makes : MethodName := ⟨RX5, "makes", "(I)I"⟩
abbrev cX5_count : ByteArray := prog_7_method_29_code
def yX5_count : MethodName := ⟨RX5, "count", "(I)I"⟩
abbrev cX5_lendersOf : ByteArray := prog_7_method_30_code
def yX5_lendersOf : MethodName := ⟨RX5, "lendersOf", "(I)I"⟩
abbrev cX5_bestCopy : ByteArray := prog_7_method_31_code
def yX5_bestCopy : MethodName := ⟨RX5, "bestCopy", "(I)I"⟩
abbrev cX5_isOffered : ByteArray := prog_7_method_32_code
def yX5_isOffered : MethodName := ⟨RX5, "isOffered", "(II)Z"⟩
abbrev cX5_offersTo : ByteArray := prog_7_method_33_code
def yX5_offersTo : MethodName := ⟨RX5, "offersTo", "(I)I"⟩
abbrev cX5_offers : ByteArray := prog_7_method_34_code
def yX5_offers : MethodName := ⟨RX5, "offers", "(I)I"⟩
abbrev cX5_ahead : ByteArray := prog_7_method_35_code
def yX5_ahead : MethodName := ⟨RX5, "ahead", "(II)I"⟩
abbrev cX5_offerAt : ByteArray := prog_7_method_36_code
def yX5_offerAt : MethodName := ⟨RX5, "offerAt", "(II)I"⟩
abbrev cX5_lends : ByteArray := prog_7_method_37_code
def yX5_lends : MethodName := ⟨RX5, "lends", "(I)V"⟩
abbrev cX5_lendsTo : ByteArray := prog_7_method_38_code
def yX5_lendsTo : MethodName := ⟨RX5, "lendsTo", "(II)Z"⟩
abbrev cX5_serve : ByteArray := prog_7_method_39_code
def yX5_serve : MethodName := ⟨RX5, "serve", "(II)I"⟩
abbrev cX5_closes : ByteArray := prog_7_method_40_code
def yX5_closes : MethodName := ⟨RX5, "closes", "(I)I"⟩
abbrev cX5_giveBack : ByteArray := prog_7_method_41_code
def yX5_giveBack : MethodName := ⟨RX5, "giveBack", "(III)I"⟩
abbrev cX5_found : ByteArray := prog_7_method_42_code
def yX5_found : MethodName := ⟨RX5, "found", "(III)I"⟩
abbrev cX5_pieces : ByteArray := prog_7_method_43_code
def yX5_pieces : MethodName := ⟨RX5, "pieces", "(II)I"⟩
abbrev cX5_stateOf : ByteArray := prog_7_method_44_code
def yX5_stateOf : MethodName := ⟨RX5, "stateOf", "(I)I"⟩
abbrev cX5_lenders : ByteArray := prog_7_method_45_code
def yX5_lenders : MethodName := ⟨RX5, "lenders", "(I)I"⟩
abbrev cX5_copyOf : ByteArray := prog_7_method_46_code
def yX5_copyOf : MethodName := ⟨RX5, "copyOf", "(I)I"⟩
abbrev cX5_lentTo : ByteArray := prog_7_method_47_code
def yX5_lentTo : MethodName := ⟨RX5, "lentTo", "(I)I"⟩
abbrev cX5_holds : ByteArray := prog_7_method_48_code
def yX5_holds : MethodName := ⟨RX5, "holds", "(II)Z"⟩
abbrev cX5_firstThat : ByteArray := prog_7_method_49_code
def yX5_firstThat : MethodName := ⟨RX5, "firstThat", "(III)I"⟩
abbrev cX5_rulingFor : ByteArray := prog_7_method_50_code
def yX5_rulingFor : MethodName := ⟨RX5, "rulingFor", "(I)I"⟩
abbrev cX5_asks : ByteArray := prog_7_method_51_code
def yX5_asks : MethodName := ⟨RX5, "asks", "(I)Z"⟩
abbrev cX5_ruling : ByteArray := prog_7_method_52_code
def yX5_ruling : MethodName := ⟨RX5, "ruling", "(I)I"⟩
abbrev cX5_rulingFromBelow : ByteArray := prog_7_method_53_code
def yX5_rulingFromBelow : MethodName := ⟨RX5, "rulingFromBelow", "(I)I"⟩
abbrev cX5_depth : ByteArray := prog_7_method_54_code
def yX5_depth : MethodName := ⟨RX5, "depth", "(I)I"⟩
def RJ6 : String := "java/lang/Integer"
def TJ6 : u_T := fun k => match k with
  | _ => ("", "", "", false)
def tyJ6 : Nat → FieldType := fun k => match k with
  | _ => .int
abbrev wsJ60 : List Cond := u_ws RJ6 TJ6 0
theorem nmJ6 : ∀ a, a < 0 → ∀ b, b < 0 → a ≠ b → (TJ6 a).2.1 ≠ (TJ6 b).2.1 := by decide +kernel
theorem tyJ6_ok : ∀ k, k < 0 → parseFieldDescriptor (TJ6 k).2.2.1 = some (tyJ6 k) := by decide +kernel
abbrev cJ6_bitCount_0f7a4 : ByteArray := prog_12_method_49_code
def yJ6_bitCount_0f7a4 : MethodName := ⟨RJ6, "bitCount", "(I)I"⟩
def RJ9 : String := "java/lang/Math"
def TJ9 : u_T := fun k => match k with
  | _ => ("", "", "", false)
def tyJ9 : Nat → FieldType := fun k => match k with
  | _ => .int
abbrev wsJ90 : List Cond := u_ws RJ9 TJ9 0
theorem nmJ9 : ∀ a, a < 0 → ∀ b, b < 0 → a ≠ b → (TJ9 a).2.1 ≠ (TJ9 b).2.1 := by decide +kernel
theorem tyJ9_ok : ∀ k, k < 0 → parseFieldDescriptor (TJ9 k).2.2.1 = some (tyJ9 k) := by decide +kernel
abbrev cJ9_max_7cf53 : ByteArray := prog_13_method_65_code
def yJ9_max_7cf53 : MethodName := ⟨RJ9, "max", "(II)I"⟩
abbrev cJ9_min_7cf53 : ByteArray := prog_13_method_69_code
def yJ9_min_7cf53 : MethodName := ⟨RJ9, "min", "(II)I"⟩
def RJ0 : String := "java/lang/String"
def TJ0 : u_T := fun k => match k with
  | _ => ("", "", "", false)
def tyJ0 : Nat → FieldType := fun k => match k with
  | _ => .int
abbrev wsJ00 : List Cond := u_ws RJ0 TJ0 0
theorem nmJ0 : ∀ a, a < 0 → ∀ b, b < 0 → a ≠ b → (TJ0 a).2.1 ≠ (TJ0 b).2.1 := by decide +kernel
theorem tyJ0_ok : ∀ k, k < 0 → parseFieldDescriptor (TJ0 k).2.2.1 = some (tyJ0 k) := by decide +kernel
def RL : String := "MeeplehouseLaw"
abbrev cL_pass : ByteArray := method_3_code
def yL_pass : MethodName := ⟨RL, "pass", "(LMeeplehouse;I[J)I"⟩
abbrev cL_addTable : ByteArray := method_4_code
def yL_addTable : MethodName := ⟨RL, "addTable", "(LMeeplehouse;I[J)I"⟩
abbrev cL_addTitle : ByteArray := method_5_code
def yL_addTitle : MethodName := ⟨RL, "addTitle", "(LMeeplehouse;IIIIIII[J)I"⟩
abbrev cL_addCopy : ByteArray := method_6_code
def yL_addCopy : MethodName := ⟨RL, "addCopy", "(LMeeplehouse;I[J)I"⟩
abbrev cL_addRule : ByteArray := method_7_code
def yL_addRule : MethodName := ⟨RL, "addRule", "(LMeeplehouse;IIIII[J)I"⟩
abbrev cL_arrive : ByteArray := method_8_code
def yL_arrive : MethodName := ⟨RL, "arrive", "(LMeeplehouse;II[J)I"⟩
abbrev cL_leave : ByteArray := method_9_code
def yL_leave : MethodName := ⟨RL, "leave", "(LMeeplehouse;I[J)I"⟩
abbrev cL_tableOf : ByteArray := method_10_code
def yL_tableOf : MethodName := ⟨RL, "tableOf", "(LMeeplehouse;I[J)I"⟩
abbrev cL_tablesOf : ByteArray := method_11_code
def yL_tablesOf : MethodName := ⟨RL, "tablesOf", "(LMeeplehouse;I[J)I"⟩
abbrev cL_waste : ByteArray := method_12_code
def yL_waste : MethodName := ⟨RL, "waste", "(LMeeplehouse;I[J)I"⟩
abbrev cL_wasteByAll : ByteArray := method_13_code
def yL_wasteByAll : MethodName := ⟨RL, "wasteByAll", "(LMeeplehouse;I[J)I"⟩
abbrev cL_left : ByteArray := method_14_code
def yL_left : MethodName := ⟨RL, "left", "(LMeeplehouse;I[J)I"⟩
abbrev cL_offers : ByteArray := method_15_code
def yL_offers : MethodName := ⟨RL, "offers", "(LMeeplehouse;I[J)I"⟩
abbrev cL_offerAt : ByteArray := method_16_code
def yL_offerAt : MethodName := ⟨RL, "offerAt", "(LMeeplehouse;II[J)I"⟩
abbrev cL_serve : ByteArray := method_17_code
def yL_serve : MethodName := ⟨RL, "serve", "(LMeeplehouse;II[J)I"⟩
abbrev cL_giveBack : ByteArray := method_18_code
def yL_giveBack : MethodName := ⟨RL, "giveBack", "(LMeeplehouse;III[J)I"⟩
abbrev cL_found : ByteArray := method_19_code
def yL_found : MethodName := ⟨RL, "found", "(LMeeplehouse;III[J)I"⟩
abbrev cL_pieces : ByteArray := method_20_code
def yL_pieces : MethodName := ⟨RL, "pieces", "(LMeeplehouse;II[J)I"⟩
abbrev cL_stateOf : ByteArray := method_21_code
def yL_stateOf : MethodName := ⟨RL, "stateOf", "(LMeeplehouse;I[J)I"⟩
abbrev cL_lenders : ByteArray := method_22_code
def yL_lenders : MethodName := ⟨RL, "lenders", "(LMeeplehouse;I[J)I"⟩
abbrev cL_copyOf : ByteArray := method_23_code
def yL_copyOf : MethodName := ⟨RL, "copyOf", "(LMeeplehouse;I[J)I"⟩
abbrev cL_ruling : ByteArray := method_24_code
def yL_ruling : MethodName := ⟨RL, "ruling", "(LMeeplehouse;I[J)I"⟩
abbrev cL_rulingFromBelow : ByteArray := method_25_code
def yL_rulingFromBelow : MethodName := ⟨RL, "rulingFromBelow", "(LMeeplehouse;I[J)I"⟩
abbrev cL_depth : ByteArray := method_26_code
def yL_depth : MethodName := ⟨RL, "depth", "(LMeeplehouse;I[J)I"⟩
abbrev cL_law : ByteArray := code
def yL_law : MethodName := ⟨RL, "law", "([I)Z"⟩
abbrev vwCl : List vw_C := [(RX0, TX0, 9), (RX1, TX1, 5), (RX2, TX2, 1), (RX3, TX3, 11), (RX4, TX4, 3), (RX5, TX5, 33)]
end
section
def wsX2_init : List Cond := .code yX2_init cX2_init 4 none :: ([.methodLink RX2 3 objectInit, .instanceMethod objectInit, .code objectInit ⟨#[0xb1]⟩ 1 none, .methodLink RX2 9 Lib.Math.max.name, .static Lib.Math.max.name, .initialized "java/lang/Math", .code Lib.Math.max.name Lib.Math.max.code 2 (some .int), .arrayClass .int, .fieldLink RX2 15 "Meeplehouse$Row" "cells" "[I"] ++ wsX20)
def wsX0_init : List Cond := .code yX0_init cX0_init 1 none :: ([.methodLink RX0 3 objectInit, .instanceMethod objectInit, .code objectInit ⟨#[0xb1]⟩ 1 none, .classLink RX0 9 RX2, .instantiable RX2 1, .initialized RX2, .fieldLink RX0 14 "Meeplehouse$Hall" "seats" "LMeeplehouse$Row;", .fieldLink RX0 20 "Meeplehouse$Hall" "sitter" "LMeeplehouse$Row;", .fieldLink RX0 23 "Meeplehouse$Hall" "players" "LMeeplehouse$Row;", .fieldLink RX0 26 "Meeplehouse$Hall" "stay" "LMeeplehouse$Row;", .fieldLink RX0 29 "Meeplehouse$Hall" "end" "LMeeplehouse$Row;", .fieldLink RX0 32 "Meeplehouse$Hall" "state" "LMeeplehouse$Row;", .methodLink RX0 11 yX2_init, .instanceMethod yX2_init, .code yX2_init cX2_init 4 none, .methodLink RX2 3 objectInit, .methodLink RX2 9 Lib.Math.max.name, .static Lib.Math.max.name, .initialized "java/lang/Math", .code Lib.Math.max.name Lib.Math.max.code 2 (some .int), .arrayClass .int, .fieldLink RX2 15 "Meeplehouse$Row" "cells" "[I"] ++ wsX20 ++ wsX00)
def wsX2_put : List Cond := .code yX2_put cX2_put 3 none :: ([.fieldLink RX2 15 "Meeplehouse$Row" "cells" "[I"] ++ wsX20)
def wsX0_putTable : List Cond := .code yX0_putTable cX0_putTable 2 (some .int) :: ([.fieldLink RX0 14 "Meeplehouse$Hall" "seats" "LMeeplehouse$Row;", .fieldLink RX0 35 "Meeplehouse$Hall" "tables" "I", .methodLink RX0 39 yX2_put, .instanceMethod yX2_put, .selects RX2 yX2_put yX2_put, .initialized RX2, .code yX2_put cX2_put 3 none, .fieldLink RX2 15 "Meeplehouse$Row" "cells" "[I"] ++ wsX00 ++ wsX20)
def wsX2_at : List Cond := .code yX2_at cX2_at 2 (some .int) :: ([.fieldLink RX2 15 "Meeplehouse$Row" "cells" "[I"] ++ wsX20)
def wsX0_wasteAt : List Cond := .code yX0_wasteAt cX0_wasteAt 6 (some .int) :: ([.fieldLink RX0 20 "Meeplehouse$Hall" "sitter" "LMeeplehouse$Row;", .fieldLink RX0 14 "Meeplehouse$Hall" "seats" "LMeeplehouse$Row;", .methodLink RX0 49 yX2_at, .instanceMethod yX2_at, .selects RX2 yX2_at yX2_at, .initialized RX2, .code yX2_at cX2_at 2 (some .int), .fieldLink RX2 15 "Meeplehouse$Row" "cells" "[I"] ++ wsX00 ++ wsX20)
def wsX0_lesser : List Cond := .code yX0_lesser cX0_lesser 2 (some .int) :: ([.methodLink RX0 82 Lib.Math.max.name, .static Lib.Math.max.name, .initialized "java/lang/Math", .code Lib.Math.max.name Lib.Math.max.code 2 (some .int), .methodLink RX0 87 Lib.Math.min.name, .static Lib.Math.min.name, .code Lib.Math.min.name Lib.Math.min.code 2 (some .int)])
def wsX0_leastWaste : List Cond := .code yX0_leastWaste cX0_leastWaste 5 (some .int) :: ([.fieldLink RX0 35 "Meeplehouse$Hall" "tables" "I", .methodLink RX0 60 yX0_wasteAt, .instanceMethod yX0_wasteAt, .selects RX0 yX0_wasteAt yX0_wasteAt, .initialized RX0, .code yX0_wasteAt cX0_wasteAt 6 (some .int), .fieldLink RX0 20 "Meeplehouse$Hall" "sitter" "LMeeplehouse$Row;", .fieldLink RX0 14 "Meeplehouse$Hall" "seats" "LMeeplehouse$Row;", .methodLink RX0 49 yX2_at, .instanceMethod yX2_at, .selects RX2 yX2_at yX2_at, .initialized RX2, .code yX2_at cX2_at 2 (some .int), .fieldLink RX2 15 "Meeplehouse$Row" "cells" "[I", .methodLink RX0 71 yX0_lesser, .static yX0_lesser, .code yX0_lesser cX0_lesser 2 (some .int), .methodLink RX0 82 Lib.Math.max.name, .static Lib.Math.max.name, .initialized "java/lang/Math", .code Lib.Math.max.name Lib.Math.max.code 2 (some .int), .methodLink RX0 87 Lib.Math.min.name, .static Lib.Math.min.name, .code Lib.Math.min.name Lib.Math.min.code 2 (some .int)] ++ wsX00 ++ wsX20)
def wsX0_seat : List Cond := .code yX0_seat cX0_seat 5 none :: ([.fieldLink RX0 20 "Meeplehouse$Hall" "sitter" "LMeeplehouse$Row;", .fieldLink RX0 32 "Meeplehouse$Hall" "state" "LMeeplehouse$Row;", .fieldLink RX0 29 "Meeplehouse$Hall" "end" "LMeeplehouse$Row;", .fieldLink RX0 68 "Meeplehouse$Hall" "minute" "I", .fieldLink RX0 26 "Meeplehouse$Hall" "stay" "LMeeplehouse$Row;", .methodLink RX0 39 yX2_put, .instanceMethod yX2_put, .selects RX2 yX2_put yX2_put, .initialized RX2, .code yX2_put cX2_put 3 none, .fieldLink RX2 15 "Meeplehouse$Row" "cells" "[I", .methodLink RX0 49 yX2_at, .instanceMethod yX2_at, .selects RX2 yX2_at yX2_at, .code yX2_at cX2_at 2 (some .int)] ++ wsX00 ++ wsX20)
def wsX0_seatIfPossible_r1 : List Cond := [Cond.fieldLink RX0 23 "Meeplehouse$Hall" "players" "LMeeplehouse$Row;", Cond.fieldLink RX0 35 "Meeplehouse$Hall" "tables" "I", Cond.methodLink RX0 49 yX2_at, Cond.instanceMethod yX2_at, Cond.selects RX2 yX2_at yX2_at, Cond.initialized RX2, Cond.code yX2_at cX2_at 2 (some .int), Cond.fieldLink RX2 15 "Meeplehouse$Row" "cells" "[I", Cond.methodLink RX0 57 yX0_leastWaste, Cond.instanceMethod yX0_leastWaste, Cond.selects RX0 yX0_leastWaste yX0_leastWaste, Cond.initialized RX0, Cond.code yX0_leastWaste cX0_leastWaste 5 (some .int), Cond.methodLink RX0 60 yX0_wasteAt, Cond.instanceMethod yX0_wasteAt, Cond.selects RX0 yX0_wasteAt yX0_wasteAt, Cond.code yX0_wasteAt cX0_wasteAt 6 (some .int), Cond.fieldLink RX0 20 "Meeplehouse$Hall" "sitter" "LMeeplehouse$Row;", Cond.fieldLink RX0 14 "Meeplehouse$Hall" "seats" "LMeeplehouse$Row;", Cond.methodLink RX0 71 yX0_lesser, Cond.static yX0_lesser, Cond.code yX0_lesser cX0_lesser 2 (some .int), Cond.methodLink RX0 82 Lib.Math.max.name, Cond.static Lib.Math.max.name]
def wsX0_seatIfPossible_r2 : List Cond := [Cond.initialized "java/lang/Math", Cond.code Lib.Math.max.name Lib.Math.max.code 2 (some .int), Cond.methodLink RX0 87 Lib.Math.min.name, Cond.static Lib.Math.min.name, Cond.code Lib.Math.min.name Lib.Math.min.code 2 (some .int), Cond.methodLink RX0 64 yX0_seat, Cond.instanceMethod yX0_seat, Cond.selects RX0 yX0_seat yX0_seat, Cond.code yX0_seat cX0_seat 5 none, Cond.fieldLink RX0 32 "Meeplehouse$Hall" "state" "LMeeplehouse$Row;", Cond.fieldLink RX0 29 "Meeplehouse$Hall" "end" "LMeeplehouse$Row;", Cond.fieldLink RX0 68 "Meeplehouse$Hall" "minute" "I", Cond.fieldLink RX0 26 "Meeplehouse$Hall" "stay" "LMeeplehouse$Row;", Cond.methodLink RX0 39 yX2_put, Cond.instanceMethod yX2_put, Cond.selects RX2 yX2_put yX2_put, Cond.code yX2_put cX2_put 3 none]
def wsX0_seatIfPossible : List Cond := .code yX0_seatIfPossible cX0_seatIfPossible 5 (some .boolean) :: ((wsX0_seatIfPossible_r1 ++ wsX0_seatIfPossible_r2) ++ wsX00 ++ wsX20)
def wsX0_welcome_r1 : List Cond := [Cond.fieldLink RX0 42 "Meeplehouse$Hall" "groups" "I", Cond.fieldLink RX0 23 "Meeplehouse$Hall" "players" "LMeeplehouse$Row;", Cond.fieldLink RX0 26 "Meeplehouse$Hall" "stay" "LMeeplehouse$Row;", Cond.methodLink RX0 39 yX2_put, Cond.instanceMethod yX2_put, Cond.selects RX2 yX2_put yX2_put, Cond.initialized RX2, Cond.code yX2_put cX2_put 3 none, Cond.fieldLink RX2 15 "Meeplehouse$Row" "cells" "[I", Cond.methodLink RX0 45 yX0_seatIfPossible, Cond.instanceMethod yX0_seatIfPossible, Cond.selects RX0 yX0_seatIfPossible yX0_seatIfPossible, Cond.initialized RX0, Cond.code yX0_seatIfPossible cX0_seatIfPossible 5 (some .boolean), Cond.fieldLink RX0 35 "Meeplehouse$Hall" "tables" "I", Cond.methodLink RX0 49 yX2_at, Cond.instanceMethod yX2_at, Cond.selects RX2 yX2_at yX2_at, Cond.code yX2_at cX2_at 2 (some .int), Cond.methodLink RX0 57 yX0_leastWaste, Cond.instanceMethod yX0_leastWaste, Cond.selects RX0 yX0_leastWaste yX0_leastWaste, Cond.code yX0_leastWaste cX0_leastWaste 5 (some .int), Cond.methodLink RX0 60 yX0_wasteAt]
def wsX0_welcome_r2 : List Cond := [Cond.instanceMethod yX0_wasteAt, Cond.selects RX0 yX0_wasteAt yX0_wasteAt, Cond.code yX0_wasteAt cX0_wasteAt 6 (some .int), Cond.fieldLink RX0 20 "Meeplehouse$Hall" "sitter" "LMeeplehouse$Row;", Cond.fieldLink RX0 14 "Meeplehouse$Hall" "seats" "LMeeplehouse$Row;", Cond.methodLink RX0 71 yX0_lesser, Cond.static yX0_lesser, Cond.code yX0_lesser cX0_lesser 2 (some .int), Cond.methodLink RX0 82 Lib.Math.max.name, Cond.static Lib.Math.max.name, Cond.initialized "java/lang/Math", Cond.code Lib.Math.max.name Lib.Math.max.code 2 (some .int), Cond.methodLink RX0 87 Lib.Math.min.name, Cond.static Lib.Math.min.name, Cond.code Lib.Math.min.name Lib.Math.min.code 2 (some .int), Cond.methodLink RX0 64 yX0_seat, Cond.instanceMethod yX0_seat, Cond.selects RX0 yX0_seat yX0_seat, Cond.code yX0_seat cX0_seat 5 none, Cond.fieldLink RX0 32 "Meeplehouse$Hall" "state" "LMeeplehouse$Row;", Cond.fieldLink RX0 29 "Meeplehouse$Hall" "end" "LMeeplehouse$Row;", Cond.fieldLink RX0 68 "Meeplehouse$Hall" "minute" "I"]
def wsX0_welcome : List Cond := .code yX0_welcome cX0_welcome 4 (some .int) :: ((wsX0_welcome_r1 ++ wsX0_welcome_r2) ++ wsX00 ++ wsX20)
def wsX0_seatWaiting_r1 : List Cond := [Cond.fieldLink RX0 42 "Meeplehouse$Hall" "groups" "I", Cond.fieldLink RX0 32 "Meeplehouse$Hall" "state" "LMeeplehouse$Row;", Cond.methodLink RX0 49 yX2_at, Cond.instanceMethod yX2_at, Cond.selects RX2 yX2_at yX2_at, Cond.initialized RX2, Cond.code yX2_at cX2_at 2 (some .int), Cond.fieldLink RX2 15 "Meeplehouse$Row" "cells" "[I", Cond.methodLink RX0 45 yX0_seatIfPossible, Cond.instanceMethod yX0_seatIfPossible, Cond.selects RX0 yX0_seatIfPossible yX0_seatIfPossible, Cond.initialized RX0, Cond.code yX0_seatIfPossible cX0_seatIfPossible 5 (some .boolean), Cond.fieldLink RX0 23 "Meeplehouse$Hall" "players" "LMeeplehouse$Row;", Cond.fieldLink RX0 35 "Meeplehouse$Hall" "tables" "I", Cond.methodLink RX0 57 yX0_leastWaste, Cond.instanceMethod yX0_leastWaste, Cond.selects RX0 yX0_leastWaste yX0_leastWaste, Cond.code yX0_leastWaste cX0_leastWaste 5 (some .int), Cond.methodLink RX0 60 yX0_wasteAt, Cond.instanceMethod yX0_wasteAt, Cond.selects RX0 yX0_wasteAt yX0_wasteAt, Cond.code yX0_wasteAt cX0_wasteAt 6 (some .int), Cond.fieldLink RX0 20 "Meeplehouse$Hall" "sitter" "LMeeplehouse$Row;"]
def wsX0_seatWaiting_r2 : List Cond := [Cond.fieldLink RX0 14 "Meeplehouse$Hall" "seats" "LMeeplehouse$Row;", Cond.methodLink RX0 71 yX0_lesser, Cond.static yX0_lesser, Cond.code yX0_lesser cX0_lesser 2 (some .int), Cond.methodLink RX0 82 Lib.Math.max.name, Cond.static Lib.Math.max.name, Cond.initialized "java/lang/Math", Cond.code Lib.Math.max.name Lib.Math.max.code 2 (some .int), Cond.methodLink RX0 87 Lib.Math.min.name, Cond.static Lib.Math.min.name, Cond.code Lib.Math.min.name Lib.Math.min.code 2 (some .int), Cond.methodLink RX0 64 yX0_seat, Cond.instanceMethod yX0_seat, Cond.selects RX0 yX0_seat yX0_seat, Cond.code yX0_seat cX0_seat 5 none, Cond.fieldLink RX0 29 "Meeplehouse$Hall" "end" "LMeeplehouse$Row;", Cond.fieldLink RX0 68 "Meeplehouse$Hall" "minute" "I", Cond.fieldLink RX0 26 "Meeplehouse$Hall" "stay" "LMeeplehouse$Row;", Cond.methodLink RX0 39 yX2_put, Cond.instanceMethod yX2_put, Cond.selects RX2 yX2_put yX2_put, Cond.code yX2_put cX2_put 3 none]
def wsX0_seatWaiting : List Cond := .code yX0_seatWaiting cX0_seatWaiting 3 (some .int) :: ((wsX0_seatWaiting_r1 ++ wsX0_seatWaiting_r2) ++ wsX00 ++ wsX20)
def wsX0_dismiss_r1 : List Cond := [Cond.fieldLink RX0 32 "Meeplehouse$Hall" "state" "LMeeplehouse$Row;", Cond.fieldLink RX0 35 "Meeplehouse$Hall" "tables" "I", Cond.fieldLink RX0 20 "Meeplehouse$Hall" "sitter" "LMeeplehouse$Row;", Cond.methodLink RX0 39 yX2_put, Cond.instanceMethod yX2_put, Cond.selects RX2 yX2_put yX2_put, Cond.initialized RX2, Cond.code yX2_put cX2_put 3 none, Cond.fieldLink RX2 15 "Meeplehouse$Row" "cells" "[I", Cond.methodLink RX0 49 yX2_at, Cond.instanceMethod yX2_at, Cond.selects RX2 yX2_at yX2_at, Cond.code yX2_at cX2_at 2 (some .int), Cond.methodLink RX0 53 yX0_seatWaiting, Cond.instanceMethod yX0_seatWaiting, Cond.selects RX0 yX0_seatWaiting yX0_seatWaiting, Cond.initialized RX0, Cond.code yX0_seatWaiting cX0_seatWaiting 3 (some .int), Cond.fieldLink RX0 42 "Meeplehouse$Hall" "groups" "I", Cond.methodLink RX0 45 yX0_seatIfPossible, Cond.instanceMethod yX0_seatIfPossible, Cond.selects RX0 yX0_seatIfPossible yX0_seatIfPossible, Cond.code yX0_seatIfPossible cX0_seatIfPossible 5 (some .boolean), Cond.fieldLink RX0 23 "Meeplehouse$Hall" "players" "LMeeplehouse$Row;"]
def wsX0_dismiss_r2 : List Cond := [Cond.methodLink RX0 57 yX0_leastWaste, Cond.instanceMethod yX0_leastWaste, Cond.selects RX0 yX0_leastWaste yX0_leastWaste, Cond.code yX0_leastWaste cX0_leastWaste 5 (some .int), Cond.methodLink RX0 60 yX0_wasteAt, Cond.instanceMethod yX0_wasteAt, Cond.selects RX0 yX0_wasteAt yX0_wasteAt, Cond.code yX0_wasteAt cX0_wasteAt 6 (some .int), Cond.fieldLink RX0 14 "Meeplehouse$Hall" "seats" "LMeeplehouse$Row;", Cond.methodLink RX0 71 yX0_lesser, Cond.static yX0_lesser, Cond.code yX0_lesser cX0_lesser 2 (some .int), Cond.methodLink RX0 82 Lib.Math.max.name, Cond.static Lib.Math.max.name, Cond.initialized "java/lang/Math", Cond.code Lib.Math.max.name Lib.Math.max.code 2 (some .int), Cond.methodLink RX0 87 Lib.Math.min.name, Cond.static Lib.Math.min.name, Cond.code Lib.Math.min.name Lib.Math.min.code 2 (some .int), Cond.methodLink RX0 64 yX0_seat, Cond.instanceMethod yX0_seat, Cond.selects RX0 yX0_seat yX0_seat, Cond.code yX0_seat cX0_seat 5 none, Cond.fieldLink RX0 29 "Meeplehouse$Hall" "end" "LMeeplehouse$Row;"]
def wsX0_dismiss_r3 : List Cond := [Cond.fieldLink RX0 68 "Meeplehouse$Hall" "minute" "I", Cond.fieldLink RX0 26 "Meeplehouse$Hall" "stay" "LMeeplehouse$Row;"]
def wsX0_dismiss : List Cond := .code yX0_dismiss cX0_dismiss 3 (some .int) :: ((wsX0_dismiss_r1 ++ (wsX0_dismiss_r2 ++ wsX0_dismiss_r3)) ++ wsX00 ++ wsX20)
def wsX4_contains : List Cond := .code yX4_contains cX4_contains 2 (some .boolean) :: ([])
def wsX0_wasteOfSet : List Cond := .code yX0_wasteOfSet cX0_wasteOfSet 7 (some .int) :: ([.fieldLink RX0 35 "Meeplehouse$Hall" "tables" "I", .fieldLink RX0 20 "Meeplehouse$Hall" "sitter" "LMeeplehouse$Row;", .fieldLink RX0 14 "Meeplehouse$Hall" "seats" "LMeeplehouse$Row;", .static yX4_contains, .initialized RX4, .code yX4_contains cX4_contains 2 (some .boolean), .methodLink RX0 49 yX2_at, .instanceMethod yX2_at, .selects RX2 yX2_at yX2_at, .initialized RX2, .code yX2_at cX2_at 2 (some .int), .fieldLink RX2 15 "Meeplehouse$Row" "cells" "[I"] ++ wsX00 ++ wsX20)
def wsX0_leastWasteOfSets_r1 : List Cond := [Cond.fieldLink RX0 35 "Meeplehouse$Hall" "tables" "I", Cond.methodLink RX0 75 yX0_wasteOfSet, Cond.instanceMethod yX0_wasteOfSet, Cond.selects RX0 yX0_wasteOfSet yX0_wasteOfSet, Cond.initialized RX0, Cond.code yX0_wasteOfSet cX0_wasteOfSet 7 (some .int), Cond.fieldLink RX0 20 "Meeplehouse$Hall" "sitter" "LMeeplehouse$Row;", Cond.fieldLink RX0 14 "Meeplehouse$Hall" "seats" "LMeeplehouse$Row;", Cond.static yX4_contains, Cond.initialized RX4, Cond.code yX4_contains cX4_contains 2 (some .boolean), Cond.methodLink RX0 49 yX2_at, Cond.instanceMethod yX2_at, Cond.selects RX2 yX2_at yX2_at, Cond.initialized RX2, Cond.code yX2_at cX2_at 2 (some .int), Cond.fieldLink RX2 15 "Meeplehouse$Row" "cells" "[I", Cond.methodLink RX0 71 yX0_lesser, Cond.static yX0_lesser, Cond.code yX0_lesser cX0_lesser 2 (some .int), Cond.methodLink RX0 82 Lib.Math.max.name, Cond.static Lib.Math.max.name, Cond.initialized "java/lang/Math", Cond.code Lib.Math.max.name Lib.Math.max.code 2 (some .int)]
def wsX0_leastWasteOfSets_r2 : List Cond := [Cond.methodLink RX0 87 Lib.Math.min.name, Cond.static Lib.Math.min.name, Cond.code Lib.Math.min.name Lib.Math.min.code 2 (some .int)]
def wsX0_leastWasteOfSets : List Cond := .code yX0_leastWasteOfSets cX0_leastWasteOfSets 4 (some .int) :: ((wsX0_leastWasteOfSets_r1 ++ wsX0_leastWasteOfSets_r2) ++ wsX00 ++ wsX20)
def wsX0_firstTable : List Cond := .code yX0_firstTable cX0_firstTable 3 (some .int) :: ([.fieldLink RX0 35 "Meeplehouse$Hall" "tables" "I", .fieldLink RX0 20 "Meeplehouse$Hall" "sitter" "LMeeplehouse$Row;", .methodLink RX0 49 yX2_at, .instanceMethod yX2_at, .selects RX2 yX2_at yX2_at, .initialized RX2, .code yX2_at cX2_at 2 (some .int), .fieldLink RX2 15 "Meeplehouse$Row" "cells" "[I"] ++ wsX00 ++ wsX20)
def wsX0_countTables : List Cond := .code yX0_countTables cX0_countTables 4 (some .int) :: ([.fieldLink RX0 35 "Meeplehouse$Hall" "tables" "I", .fieldLink RX0 20 "Meeplehouse$Hall" "sitter" "LMeeplehouse$Row;", .methodLink RX0 49 yX2_at, .instanceMethod yX2_at, .selects RX2 yX2_at yX2_at, .initialized RX2, .code yX2_at cX2_at 2 (some .int), .fieldLink RX2 15 "Meeplehouse$Row" "cells" "[I"] ++ wsX00 ++ wsX20)
def wsX0_countWaiting : List Cond := .code yX0_countWaiting cX0_countWaiting 3 (some .int) :: ([.fieldLink RX0 42 "Meeplehouse$Hall" "groups" "I", .fieldLink RX0 32 "Meeplehouse$Hall" "state" "LMeeplehouse$Row;", .methodLink RX0 49 yX2_at, .instanceMethod yX2_at, .selects RX2 yX2_at yX2_at, .initialized RX2, .code yX2_at cX2_at 2 (some .int), .fieldLink RX2 15 "Meeplehouse$Row" "cells" "[I"] ++ wsX00 ++ wsX20)
def wsX0_isSeated : List Cond := .code yX0_isSeated cX0_isSeated 2 (some .boolean) :: ([.fieldLink RX0 32 "Meeplehouse$Hall" "state" "LMeeplehouse$Row;", .methodLink RX0 49 yX2_at, .instanceMethod yX2_at, .selects RX2 yX2_at yX2_at, .initialized RX2, .code yX2_at cX2_at 2 (some .int), .fieldLink RX2 15 "Meeplehouse$Row" "cells" "[I"] ++ wsX00 ++ wsX20)
def wsX0_isGone : List Cond := .code yX0_isGone cX0_isGone 2 (some .boolean) :: ([.fieldLink RX0 32 "Meeplehouse$Hall" "state" "LMeeplehouse$Row;", .methodLink RX0 49 yX2_at, .instanceMethod yX2_at, .selects RX2 yX2_at yX2_at, .initialized RX2, .code yX2_at cX2_at 2 (some .int), .fieldLink RX2 15 "Meeplehouse$Row" "cells" "[I"] ++ wsX00 ++ wsX20)
def wsX0_minutesLeft : List Cond := .code yX0_minutesLeft cX0_minutesLeft 2 (some .int) :: ([.fieldLink RX0 29 "Meeplehouse$Hall" "end" "LMeeplehouse$Row;", .fieldLink RX0 68 "Meeplehouse$Hall" "minute" "I", .methodLink RX0 82 Lib.Math.max.name, .static Lib.Math.max.name, .initialized "java/lang/Math", .code Lib.Math.max.name Lib.Math.max.code 2 (some .int), .methodLink RX0 49 yX2_at, .instanceMethod yX2_at, .selects RX2 yX2_at yX2_at, .initialized RX2, .code yX2_at cX2_at 2 (some .int), .fieldLink RX2 15 "Meeplehouse$Row" "cells" "[I"] ++ wsX00 ++ wsX20)
def wsX1_init : List Cond := .code yX1_init cX1_init 1 none :: ([.methodLink RX1 3 objectInit, .instanceMethod objectInit, .code objectInit ⟨#[0xb1]⟩ 1 none, .classLink RX1 9 RX2, .instantiable RX2 1, .initialized RX2, .fieldLink RX1 14 "Meeplehouse$Referee" "rules" "LMeeplehouse$Row;", .fieldLink RX1 20 "Meeplehouse$Referee" "parents" "LMeeplehouse$Row;", .fieldLink RX1 23 "Meeplehouse$Referee" "tests" "LMeeplehouse$Row;", .fieldLink RX1 26 "Meeplehouse$Referee" "values" "LMeeplehouse$Row;", .fieldLink RX1 29 "Meeplehouse$Referee" "rulings" "LMeeplehouse$Row;", .methodLink RX1 11 yX2_init, .instanceMethod yX2_init, .code yX2_init cX2_init 4 none, .methodLink RX2 3 objectInit, .methodLink RX2 9 Lib.Math.max.name, .static Lib.Math.max.name, .initialized "java/lang/Math", .code Lib.Math.max.name Lib.Math.max.code 2 (some .int), .arrayClass .int, .fieldLink RX2 15 "Meeplehouse$Row" "cells" "[I"] ++ wsX20 ++ wsX10)
def wsX1_rulesOf : List Cond := .code yX1_rulesOf cX1_rulesOf 2 (some .int) :: ([.fieldLink RX1 14 "Meeplehouse$Referee" "rules" "LMeeplehouse$Row;", .methodLink RX1 32 yX2_at, .instanceMethod yX2_at, .selects RX2 yX2_at yX2_at, .initialized RX2, .code yX2_at cX2_at 2 (some .int), .fieldLink RX2 15 "Meeplehouse$Row" "cells" "[I"] ++ wsX10 ++ wsX20)
def wsX1_putRule : List Cond := .code yX1_putRule cX1_putRule 8 (some .int) :: ([.fieldLink RX1 14 "Meeplehouse$Referee" "rules" "LMeeplehouse$Row;", .fieldLink RX1 20 "Meeplehouse$Referee" "parents" "LMeeplehouse$Row;", .fieldLink RX1 23 "Meeplehouse$Referee" "tests" "LMeeplehouse$Row;", .fieldLink RX1 26 "Meeplehouse$Referee" "values" "LMeeplehouse$Row;", .fieldLink RX1 29 "Meeplehouse$Referee" "rulings" "LMeeplehouse$Row;", .methodLink RX1 32 yX2_at, .instanceMethod yX2_at, .selects RX2 yX2_at yX2_at, .initialized RX2, .code yX2_at cX2_at 2 (some .int), .fieldLink RX2 15 "Meeplehouse$Row" "cells" "[I", .methodLink RX1 36 yX2_put, .instanceMethod yX2_put, .selects RX2 yX2_put yX2_put, .code yX2_put cX2_put 3 none] ++ wsX10 ++ wsX20)
def wsX1_parentOf : List Cond := .code yX1_parentOf cX1_parentOf 3 (some .int) :: ([.fieldLink RX1 20 "Meeplehouse$Referee" "parents" "LMeeplehouse$Row;", .methodLink RX1 32 yX2_at, .instanceMethod yX2_at, .selects RX2 yX2_at yX2_at, .initialized RX2, .code yX2_at cX2_at 2 (some .int), .fieldLink RX2 15 "Meeplehouse$Row" "cells" "[I"] ++ wsX10 ++ wsX20)
def wsX1_holds : List Cond := .code yX1_holds cX1_holds 5 (some .boolean) :: ([])
def wsX1_holding : List Cond := .code yX1_holding cX1_holding 8 (some .int) :: ([.fieldLink RX1 14 "Meeplehouse$Referee" "rules" "LMeeplehouse$Row;", .fieldLink RX1 23 "Meeplehouse$Referee" "tests" "LMeeplehouse$Row;", .fieldLink RX1 26 "Meeplehouse$Referee" "values" "LMeeplehouse$Row;", .methodLink RX1 32 yX2_at, .instanceMethod yX2_at, .selects RX2 yX2_at yX2_at, .initialized RX2, .code yX2_at cX2_at 2 (some .int), .fieldLink RX2 15 "Meeplehouse$Row" "cells" "[I", .methodLink RX1 39 yX1_holds, .static yX1_holds, .initialized RX1, .code yX1_holds cX1_holds 5 (some .boolean)] ++ wsX10 ++ wsX20)
def wsX1_firstHolding : List Cond := .code yX1_firstHolding cX1_firstHolding 5 (some .int) :: ([.fieldLink RX1 14 "Meeplehouse$Referee" "rules" "LMeeplehouse$Row;", .methodLink RX1 32 yX2_at, .instanceMethod yX2_at, .selects RX2 yX2_at yX2_at, .initialized RX2, .code yX2_at cX2_at 2 (some .int), .fieldLink RX2 15 "Meeplehouse$Row" "cells" "[I", .methodLink RX1 47 yX1_parentOf, .instanceMethod yX1_parentOf, .selects RX1 yX1_parentOf yX1_parentOf, .initialized RX1, .code yX1_parentOf cX1_parentOf 3 (some .int), .fieldLink RX1 20 "Meeplehouse$Referee" "parents" "LMeeplehouse$Row;", .static yX4_contains, .initialized RX4, .code yX4_contains cX4_contains 2 (some .boolean)] ++ wsX10 ++ wsX20)
def wsX1_rulingGoingDown : List Cond := .code yX1_rulingGoingDown cX1_rulingGoingDown 6 (some .int) :: ([.fieldLink RX1 29 "Meeplehouse$Referee" "rulings" "LMeeplehouse$Row;", .methodLink RX1 43 yX1_firstHolding, .instanceMethod yX1_firstHolding, .selects RX1 yX1_firstHolding yX1_firstHolding, .initialized RX1, .code yX1_firstHolding cX1_firstHolding 5 (some .int), .fieldLink RX1 14 "Meeplehouse$Referee" "rules" "LMeeplehouse$Row;", .methodLink RX1 32 yX2_at, .instanceMethod yX2_at, .selects RX2 yX2_at yX2_at, .initialized RX2, .code yX2_at cX2_at 2 (some .int), .fieldLink RX2 15 "Meeplehouse$Row" "cells" "[I", .methodLink RX1 47 yX1_parentOf, .instanceMethod yX1_parentOf, .selects RX1 yX1_parentOf yX1_parentOf, .code yX1_parentOf cX1_parentOf 3 (some .int), .fieldLink RX1 20 "Meeplehouse$Referee" "parents" "LMeeplehouse$Row;", .static yX4_contains, .initialized RX4, .code yX4_contains cX4_contains 2 (some .boolean)] ++ wsX10 ++ wsX20)
def wsX1_holdsAmong : List Cond := .code yX1_holdsAmong cX1_holdsAmong 6 (some .boolean) :: ([.methodLink RX1 47 yX1_parentOf, .instanceMethod yX1_parentOf, .selects RX1 yX1_parentOf yX1_parentOf, .initialized RX1, .code yX1_parentOf cX1_parentOf 3 (some .int), .fieldLink RX1 20 "Meeplehouse$Referee" "parents" "LMeeplehouse$Row;", .methodLink RX1 32 yX2_at, .instanceMethod yX2_at, .selects RX2 yX2_at yX2_at, .initialized RX2, .code yX2_at cX2_at 2 (some .int), .fieldLink RX2 15 "Meeplehouse$Row" "cells" "[I", .static yX4_contains, .initialized RX4, .code yX4_contains cX4_contains 2 (some .boolean)] ++ wsX10 ++ wsX20)
def wsX1_decides : List Cond := .code yX1_decides cX1_decides 7 (some .boolean) :: ([.fieldLink RX1 14 "Meeplehouse$Referee" "rules" "LMeeplehouse$Row;", .methodLink RX1 32 yX2_at, .instanceMethod yX2_at, .selects RX2 yX2_at yX2_at, .initialized RX2, .code yX2_at cX2_at 2 (some .int), .fieldLink RX2 15 "Meeplehouse$Row" "cells" "[I", .methodLink RX1 59 yX1_holdsAmong, .instanceMethod yX1_holdsAmong, .selects RX1 yX1_holdsAmong yX1_holdsAmong, .initialized RX1, .code yX1_holdsAmong cX1_holdsAmong 6 (some .boolean), .methodLink RX1 47 yX1_parentOf, .instanceMethod yX1_parentOf, .selects RX1 yX1_parentOf yX1_parentOf, .code yX1_parentOf cX1_parentOf 3 (some .int), .fieldLink RX1 20 "Meeplehouse$Referee" "parents" "LMeeplehouse$Row;", .static yX4_contains, .initialized RX4, .code yX4_contains cX4_contains 2 (some .boolean)] ++ wsX10 ++ wsX20)
def wsX1_rulingGoingUp_r1 : List Cond := [Cond.fieldLink RX1 14 "Meeplehouse$Referee" "rules" "LMeeplehouse$Row;", Cond.fieldLink RX1 29 "Meeplehouse$Referee" "rulings" "LMeeplehouse$Row;", Cond.methodLink RX1 32 yX2_at, Cond.instanceMethod yX2_at, Cond.selects RX2 yX2_at yX2_at, Cond.initialized RX2, Cond.code yX2_at cX2_at 2 (some .int), Cond.fieldLink RX2 15 "Meeplehouse$Row" "cells" "[I", Cond.methodLink RX1 55 yX1_decides, Cond.instanceMethod yX1_decides, Cond.selects RX1 yX1_decides yX1_decides, Cond.initialized RX1, Cond.code yX1_decides cX1_decides 7 (some .boolean), Cond.methodLink RX1 59 yX1_holdsAmong, Cond.instanceMethod yX1_holdsAmong, Cond.selects RX1 yX1_holdsAmong yX1_holdsAmong, Cond.code yX1_holdsAmong cX1_holdsAmong 6 (some .boolean), Cond.methodLink RX1 47 yX1_parentOf, Cond.instanceMethod yX1_parentOf, Cond.selects RX1 yX1_parentOf yX1_parentOf, Cond.code yX1_parentOf cX1_parentOf 3 (some .int), Cond.fieldLink RX1 20 "Meeplehouse$Referee" "parents" "LMeeplehouse$Row;", Cond.static yX4_contains, Cond.initialized RX4]
def wsX1_rulingGoingUp_r2 : List Cond := [Cond.code yX4_contains cX4_contains 2 (some .boolean)]
def wsX1_rulingGoingUp : List Cond := .code yX1_rulingGoingUp cX1_rulingGoingUp 4 (some .int) :: ((wsX1_rulingGoingUp_r1 ++ wsX1_rulingGoingUp_r2) ++ wsX10 ++ wsX20)
def wsX1_levelOf : List Cond := .code yX1_levelOf cX1_levelOf 5 (some .int) :: ([.methodLink RX1 47 yX1_parentOf, .instanceMethod yX1_parentOf, .selects RX1 yX1_parentOf yX1_parentOf, .initialized RX1, .code yX1_parentOf cX1_parentOf 3 (some .int), .fieldLink RX1 20 "Meeplehouse$Referee" "parents" "LMeeplehouse$Row;", .methodLink RX1 32 yX2_at, .instanceMethod yX2_at, .selects RX2 yX2_at yX2_at, .initialized RX2, .code yX2_at cX2_at 2 (some .int), .fieldLink RX2 15 "Meeplehouse$Row" "cells" "[I"] ++ wsX10 ++ wsX20)
def wsX1_deepest : List Cond := .code yX1_deepest cX1_deepest 4 (some .int) :: ([.fieldLink RX1 14 "Meeplehouse$Referee" "rules" "LMeeplehouse$Row;", .methodLink RX1 66 Lib.Math.max.name, .static Lib.Math.max.name, .initialized "java/lang/Math", .code Lib.Math.max.name Lib.Math.max.code 2 (some .int), .methodLink RX1 32 yX2_at, .instanceMethod yX2_at, .selects RX2 yX2_at yX2_at, .initialized RX2, .code yX2_at cX2_at 2 (some .int), .fieldLink RX2 15 "Meeplehouse$Row" "cells" "[I", .methodLink RX1 63 yX1_levelOf, .instanceMethod yX1_levelOf, .selects RX1 yX1_levelOf yX1_levelOf, .initialized RX1, .code yX1_levelOf cX1_levelOf 5 (some .int), .methodLink RX1 47 yX1_parentOf, .instanceMethod yX1_parentOf, .selects RX1 yX1_parentOf yX1_parentOf, .code yX1_parentOf cX1_parentOf 3 (some .int), .fieldLink RX1 20 "Meeplehouse$Referee" "parents" "LMeeplehouse$Row;"] ++ wsX10 ++ wsX20)
def wsX3_init_r1 : List Cond := [Cond.methodLink RX3 3 objectInit, Cond.instanceMethod objectInit, Cond.code objectInit ⟨#[0xb1]⟩ 1 none, Cond.classLink RX3 9 RX2, Cond.instantiable RX2 1, Cond.initialized RX2, Cond.fieldLink RX3 14 "Meeplehouse$Shelf" "least" "LMeeplehouse$Row;", Cond.fieldLink RX3 20 "Meeplehouse$Shelf" "most" "LMeeplehouse$Row;", Cond.fieldLink RX3 23 "Meeplehouse$Shelf" "minutes" "LMeeplehouse$Row;", Cond.fieldLink RX3 26 "Meeplehouse$Shelf" "full" "LMeeplehouse$Row;", Cond.fieldLink RX3 29 "Meeplehouse$Shelf" "titleOf" "LMeeplehouse$Row;", Cond.fieldLink RX3 32 "Meeplehouse$Shelf" "holder" "LMeeplehouse$Row;", Cond.fieldLink RX3 35 "Meeplehouse$Shelf" "borrower" "LMeeplehouse$Row;", Cond.fieldLink RX3 38 "Meeplehouse$Shelf" "lent" "LMeeplehouse$Row;", Cond.fieldLink RX3 41 "Meeplehouse$Shelf" "has" "LMeeplehouse$Row;", Cond.methodLink RX3 11 yX2_init, Cond.instanceMethod yX2_init, Cond.code yX2_init cX2_init 4 none, Cond.methodLink RX2 3 objectInit, Cond.methodLink RX2 9 Lib.Math.max.name, Cond.static Lib.Math.max.name, Cond.initialized "java/lang/Math", Cond.code Lib.Math.max.name Lib.Math.max.code 2 (some .int), Cond.arrayClass .int]
def wsX3_init_r2 : List Cond := [Cond.fieldLink RX2 15 "Meeplehouse$Row" "cells" "[I"]
def wsX3_init : List Cond := .code yX3_init cX3_init 1 none :: ((wsX3_init_r1 ++ wsX3_init_r2) ++ wsX20 ++ wsX30)
def wsX3_putTitle : List Cond := .code yX3_putTitle cX3_putTitle 4 (some .int) :: ([.fieldLink RX3 14 "Meeplehouse$Shelf" "least" "LMeeplehouse$Row;", .fieldLink RX3 44 "Meeplehouse$Shelf" "titles" "I", .fieldLink RX3 20 "Meeplehouse$Shelf" "most" "LMeeplehouse$Row;", .fieldLink RX3 23 "Meeplehouse$Shelf" "minutes" "LMeeplehouse$Row;", .methodLink RX3 48 yX2_put, .instanceMethod yX2_put, .selects RX2 yX2_put yX2_put, .initialized RX2, .code yX2_put cX2_put 3 none, .fieldLink RX2 15 "Meeplehouse$Row" "cells" "[I"] ++ wsX30 ++ wsX20)
def wsX3_setFull : List Cond := .code yX3_setFull cX3_setFull 4 none :: ([.fieldLink RX3 26 "Meeplehouse$Shelf" "full" "LMeeplehouse$Row;", .methodLink RX3 48 yX2_put, .instanceMethod yX2_put, .selects RX2 yX2_put yX2_put, .initialized RX2, .code yX2_put cX2_put 3 none, .fieldLink RX2 15 "Meeplehouse$Row" "cells" "[I"] ++ wsX30 ++ wsX20)
def wsX3_putCopy : List Cond := .code yX3_putCopy cX3_putCopy 4 (some .int) :: ([.fieldLink RX3 51 "Meeplehouse$Shelf" "copies" "I", .fieldLink RX3 29 "Meeplehouse$Shelf" "titleOf" "LMeeplehouse$Row;", .fieldLink RX3 41 "Meeplehouse$Shelf" "has" "LMeeplehouse$Row;", .fieldLink RX3 26 "Meeplehouse$Shelf" "full" "LMeeplehouse$Row;", .methodLink RX3 48 yX2_put, .instanceMethod yX2_put, .selects RX2 yX2_put yX2_put, .initialized RX2, .code yX2_put cX2_put 3 none, .fieldLink RX2 15 "Meeplehouse$Row" "cells" "[I", .methodLink RX3 54 yX2_at, .instanceMethod yX2_at, .selects RX2 yX2_at yX2_at, .code yX2_at cX2_at 2 (some .int)] ++ wsX30 ++ wsX20)
def wsX3_heldBy : List Cond := .code yX3_heldBy cX3_heldBy 3 (some .int) :: ([.fieldLink RX3 51 "Meeplehouse$Shelf" "copies" "I", .fieldLink RX3 32 "Meeplehouse$Shelf" "holder" "LMeeplehouse$Row;", .methodLink RX3 54 yX2_at, .instanceMethod yX2_at, .selects RX2 yX2_at yX2_at, .initialized RX2, .code yX2_at cX2_at 2 (some .int), .fieldLink RX2 15 "Meeplehouse$Row" "cells" "[I"] ++ wsX30 ++ wsX20)
def wsX3_place : List Cond := .code yX3_place cX3_place 2 (some .int) :: ([.fieldLink RX3 32 "Meeplehouse$Shelf" "holder" "LMeeplehouse$Row;", .fieldLink RX3 35 "Meeplehouse$Shelf" "borrower" "LMeeplehouse$Row;", .methodLink RX3 54 yX2_at, .instanceMethod yX2_at, .selects RX2 yX2_at yX2_at, .initialized RX2, .code yX2_at cX2_at 2 (some .int), .fieldLink RX2 15 "Meeplehouse$Row" "cells" "[I"] ++ wsX30 ++ wsX20)
def wsX3_count : List Cond := .code yX3_count cX3_count 3 (some .int) :: ([.fieldLink RX3 41 "Meeplehouse$Shelf" "has" "LMeeplehouse$Row;", .methodLink RX3 54 yX2_at, .instanceMethod yX2_at, .selects RX2 yX2_at yX2_at, .initialized RX2, .code yX2_at cX2_at 2 (some .int), .fieldLink RX2 15 "Meeplehouse$Row" "cells" "[I"] ++ wsX30 ++ wsX20)
def wsX3_lack : List Cond := .code yX3_lack cX3_lack 3 (some .int) :: ([.fieldLink RX3 26 "Meeplehouse$Shelf" "full" "LMeeplehouse$Row;", .fieldLink RX3 29 "Meeplehouse$Shelf" "titleOf" "LMeeplehouse$Row;", .fieldLink RX3 41 "Meeplehouse$Shelf" "has" "LMeeplehouse$Row;", .methodLink RX3 54 yX2_at, .instanceMethod yX2_at, .selects RX2 yX2_at yX2_at, .initialized RX2, .code yX2_at cX2_at 2 (some .int), .fieldLink RX2 15 "Meeplehouse$Row" "cells" "[I"] ++ wsX30 ++ wsX20)
def wsX3_change : List Cond := .code yX3_change cX3_change 4 none :: ([.fieldLink RX3 41 "Meeplehouse$Shelf" "has" "LMeeplehouse$Row;", .methodLink RX3 58 yX3_count, .instanceMethod yX3_count, .selects RX3 yX3_count yX3_count, .initialized RX3, .code yX3_count cX3_count 3 (some .int), .methodLink RX3 54 yX2_at, .instanceMethod yX2_at, .selects RX2 yX2_at yX2_at, .initialized RX2, .code yX2_at cX2_at 2 (some .int), .fieldLink RX2 15 "Meeplehouse$Row" "cells" "[I", .methodLink RX3 48 yX2_put, .instanceMethod yX2_put, .selects RX2 yX2_put yX2_put, .code yX2_put cX2_put 3 none] ++ wsX30 ++ wsX20)
def wsX3_suits : List Cond := .code yX3_suits cX3_suits 4 (some .boolean) :: ([.fieldLink RX3 14 "Meeplehouse$Shelf" "least" "LMeeplehouse$Row;", .fieldLink RX3 20 "Meeplehouse$Shelf" "most" "LMeeplehouse$Row;", .fieldLink RX3 23 "Meeplehouse$Shelf" "minutes" "LMeeplehouse$Row;", .methodLink RX3 54 yX2_at, .instanceMethod yX2_at, .selects RX2 yX2_at yX2_at, .initialized RX2, .code yX2_at cX2_at 2 (some .int), .fieldLink RX2 15 "Meeplehouse$Row" "cells" "[I"] ++ wsX30 ++ wsX20)
def wsX3_countAhead : List Cond := .code yX3_countAhead cX3_countAhead 6 (some .int) :: ([.fieldLink RX3 44 "Meeplehouse$Shelf" "titles" "I", .fieldLink RX3 23 "Meeplehouse$Shelf" "minutes" "LMeeplehouse$Row;", .methodLink RX3 54 yX2_at, .instanceMethod yX2_at, .selects RX2 yX2_at yX2_at, .initialized RX2, .code yX2_at cX2_at 2 (some .int), .fieldLink RX2 15 "Meeplehouse$Row" "cells" "[I", .static yX4_contains, .initialized RX4, .code yX4_contains cX4_contains 2 (some .boolean)] ++ wsX30 ++ wsX20)
def wsX3_titleInPlace : List Cond := .code yX3_titleInPlace cX3_titleInPlace 4 (some .int) :: ([.fieldLink RX3 44 "Meeplehouse$Shelf" "titles" "I", .static yX4_contains, .initialized RX4, .code yX4_contains cX4_contains 2 (some .boolean), .methodLink RX3 66 yX3_countAhead, .instanceMethod yX3_countAhead, .selects RX3 yX3_countAhead yX3_countAhead, .initialized RX3, .code yX3_countAhead cX3_countAhead 6 (some .int), .fieldLink RX3 23 "Meeplehouse$Shelf" "minutes" "LMeeplehouse$Row;", .methodLink RX3 54 yX2_at, .instanceMethod yX2_at, .selects RX2 yX2_at yX2_at, .initialized RX2, .code yX2_at cX2_at 2 (some .int), .fieldLink RX2 15 "Meeplehouse$Row" "cells" "[I"] ++ wsX30 ++ wsX20)
def wsX3_mayLend : List Cond := .code yX3_mayLend cX3_mayLend 3 (some .boolean) :: ([.fieldLink RX3 29 "Meeplehouse$Shelf" "titleOf" "LMeeplehouse$Row;", .fieldLink RX3 32 "Meeplehouse$Shelf" "holder" "LMeeplehouse$Row;", .fieldLink RX3 35 "Meeplehouse$Shelf" "borrower" "LMeeplehouse$Row;", .methodLink RX3 54 yX2_at, .instanceMethod yX2_at, .selects RX2 yX2_at yX2_at, .initialized RX2, .code yX2_at cX2_at 2 (some .int), .fieldLink RX2 15 "Meeplehouse$Row" "cells" "[I"] ++ wsX30 ++ wsX20)
def wsJ6_bitCount_0f7a4 : List Cond := .code yJ6_bitCount_0f7a4 cJ6_bitCount_0f7a4 1 (some .int) :: ([.constant RJ6 265 (1431655765), .constant RJ6 266 (858993459), .constant RJ6 267 (252645135)])
def wsX3_countLenders_r1 : List Cond := [Cond.fieldLink RX3 51 "Meeplehouse$Shelf" "copies" "I", Cond.methodLink RX3 81 Lib.Math.min.name, Cond.static Lib.Math.min.name, Cond.initialized "java/lang/Math", Cond.code Lib.Math.min.name Lib.Math.min.code 2 (some .int), Cond.methodLink RX3 72 yX3_place, Cond.instanceMethod yX3_place, Cond.selects RX3 yX3_place yX3_place, Cond.initialized RX3, Cond.code yX3_place cX3_place 2 (some .int), Cond.fieldLink RX3 32 "Meeplehouse$Shelf" "holder" "LMeeplehouse$Row;", Cond.fieldLink RX3 35 "Meeplehouse$Shelf" "borrower" "LMeeplehouse$Row;", Cond.methodLink RX3 54 yX2_at, Cond.instanceMethod yX2_at, Cond.selects RX2 yX2_at yX2_at, Cond.initialized RX2, Cond.code yX2_at cX2_at 2 (some .int), Cond.fieldLink RX2 15 "Meeplehouse$Row" "cells" "[I", Cond.methodLink RX3 75 yX3_lack, Cond.instanceMethod yX3_lack, Cond.selects RX3 yX3_lack yX3_lack, Cond.code yX3_lack cX3_lack 3 (some .int), Cond.fieldLink RX3 26 "Meeplehouse$Shelf" "full" "LMeeplehouse$Row;", Cond.fieldLink RX3 29 "Meeplehouse$Shelf" "titleOf" "LMeeplehouse$Row;"]
def wsX3_countLenders_r2 : List Cond := [Cond.fieldLink RX3 41 "Meeplehouse$Shelf" "has" "LMeeplehouse$Row;", Cond.methodLink RX3 78 yX3_mayLend, Cond.instanceMethod yX3_mayLend, Cond.selects RX3 yX3_mayLend yX3_mayLend, Cond.code yX3_mayLend cX3_mayLend 3 (some .boolean), Cond.methodLink RX3 58 yX3_count, Cond.instanceMethod yX3_count, Cond.selects RX3 yX3_count yX3_count, Cond.code yX3_count cX3_count 3 (some .int), Cond.methodLink RX3 86 yJ6_bitCount_0f7a4, Cond.static yJ6_bitCount_0f7a4, Cond.initialized RJ6, Cond.code yJ6_bitCount_0f7a4 cJ6_bitCount_0f7a4 1 (some .int), Cond.constant RJ6 265 (1431655765), Cond.constant RJ6 266 (858993459), Cond.constant RJ6 267 (252645135)]
def wsX3_countLenders : List Cond := .code yX3_countLenders cX3_countLenders 6 (some .int) :: ((wsX3_countLenders_r1 ++ wsX3_countLenders_r2) ++ wsX30 ++ wsX20)
def wsX3_bestCopy_r1 : List Cond := [Cond.fieldLink RX3 51 "Meeplehouse$Shelf" "copies" "I", Cond.fieldLink RX3 29 "Meeplehouse$Shelf" "titleOf" "LMeeplehouse$Row;", Cond.methodLink RX3 54 yX2_at, Cond.instanceMethod yX2_at, Cond.selects RX2 yX2_at yX2_at, Cond.initialized RX2, Cond.code yX2_at cX2_at 2 (some .int), Cond.fieldLink RX2 15 "Meeplehouse$Row" "cells" "[I", Cond.methodLink RX3 69 yX3_countLenders, Cond.instanceMethod yX3_countLenders, Cond.selects RX3 yX3_countLenders yX3_countLenders, Cond.initialized RX3, Cond.code yX3_countLenders cX3_countLenders 6 (some .int), Cond.methodLink RX3 81 Lib.Math.min.name, Cond.static Lib.Math.min.name, Cond.initialized "java/lang/Math", Cond.code Lib.Math.min.name Lib.Math.min.code 2 (some .int), Cond.methodLink RX3 72 yX3_place, Cond.instanceMethod yX3_place, Cond.selects RX3 yX3_place yX3_place, Cond.code yX3_place cX3_place 2 (some .int), Cond.fieldLink RX3 32 "Meeplehouse$Shelf" "holder" "LMeeplehouse$Row;", Cond.fieldLink RX3 35 "Meeplehouse$Shelf" "borrower" "LMeeplehouse$Row;", Cond.methodLink RX3 75 yX3_lack]
def wsX3_bestCopy_r2 : List Cond := [Cond.instanceMethod yX3_lack, Cond.selects RX3 yX3_lack yX3_lack, Cond.code yX3_lack cX3_lack 3 (some .int), Cond.fieldLink RX3 26 "Meeplehouse$Shelf" "full" "LMeeplehouse$Row;", Cond.fieldLink RX3 41 "Meeplehouse$Shelf" "has" "LMeeplehouse$Row;", Cond.methodLink RX3 78 yX3_mayLend, Cond.instanceMethod yX3_mayLend, Cond.selects RX3 yX3_mayLend yX3_mayLend, Cond.code yX3_mayLend cX3_mayLend 3 (some .boolean), Cond.methodLink RX3 58 yX3_count, Cond.instanceMethod yX3_count, Cond.selects RX3 yX3_count yX3_count, Cond.code yX3_count cX3_count 3 (some .int), Cond.methodLink RX3 86 yJ6_bitCount_0f7a4, Cond.static yJ6_bitCount_0f7a4, Cond.initialized RJ6, Cond.code yJ6_bitCount_0f7a4 cJ6_bitCount_0f7a4 1 (some .int), Cond.constant RJ6 265 (1431655765), Cond.constant RJ6 266 (858993459), Cond.constant RJ6 267 (252645135)]
def wsX3_bestCopy : List Cond := .code yX3_bestCopy cX3_bestCopy 6 (some .int) :: ((wsX3_bestCopy_r1 ++ wsX3_bestCopy_r2) ++ wsX30 ++ wsX20)
def wsX3_lend : List Cond := .code yX3_lend cX3_lend 5 none :: ([.fieldLink RX3 35 "Meeplehouse$Shelf" "borrower" "LMeeplehouse$Row;", .fieldLink RX3 38 "Meeplehouse$Shelf" "lent" "LMeeplehouse$Row;", .methodLink RX3 48 yX2_put, .instanceMethod yX2_put, .selects RX2 yX2_put yX2_put, .initialized RX2, .code yX2_put cX2_put 3 none, .fieldLink RX2 15 "Meeplehouse$Row" "cells" "[I", .methodLink RX3 95 yX3_change, .instanceMethod yX3_change, .selects RX3 yX3_change yX3_change, .initialized RX3, .code yX3_change cX3_change 4 none, .fieldLink RX3 41 "Meeplehouse$Shelf" "has" "LMeeplehouse$Row;", .methodLink RX3 58 yX3_count, .instanceMethod yX3_count, .selects RX3 yX3_count yX3_count, .code yX3_count cX3_count 3 (some .int), .methodLink RX3 54 yX2_at, .instanceMethod yX2_at, .selects RX2 yX2_at yX2_at, .code yX2_at cX2_at 2 (some .int)] ++ wsX30 ++ wsX20)
def wsX3_handOut_r1 : List Cond := [Cond.fieldLink RX3 51 "Meeplehouse$Shelf" "copies" "I", Cond.methodLink RX3 81 Lib.Math.min.name, Cond.static Lib.Math.min.name, Cond.initialized "java/lang/Math", Cond.code Lib.Math.min.name Lib.Math.min.code 2 (some .int), Cond.fieldLink RX3 32 "Meeplehouse$Shelf" "holder" "LMeeplehouse$Row;", Cond.methodLink RX3 75 yX3_lack, Cond.instanceMethod yX3_lack, Cond.selects RX3 yX3_lack yX3_lack, Cond.initialized RX3, Cond.code yX3_lack cX3_lack 3 (some .int), Cond.fieldLink RX3 26 "Meeplehouse$Shelf" "full" "LMeeplehouse$Row;", Cond.fieldLink RX3 29 "Meeplehouse$Shelf" "titleOf" "LMeeplehouse$Row;", Cond.fieldLink RX3 41 "Meeplehouse$Shelf" "has" "LMeeplehouse$Row;", Cond.methodLink RX3 54 yX2_at, Cond.instanceMethod yX2_at, Cond.selects RX2 yX2_at yX2_at, Cond.initialized RX2, Cond.code yX2_at cX2_at 2 (some .int), Cond.fieldLink RX2 15 "Meeplehouse$Row" "cells" "[I", Cond.methodLink RX3 58 yX3_count, Cond.instanceMethod yX3_count, Cond.selects RX3 yX3_count yX3_count, Cond.code yX3_count cX3_count 3 (some .int)]
def wsX3_handOut_r2 : List Cond := [Cond.methodLink RX3 78 yX3_mayLend, Cond.instanceMethod yX3_mayLend, Cond.selects RX3 yX3_mayLend yX3_mayLend, Cond.code yX3_mayLend cX3_mayLend 3 (some .boolean), Cond.fieldLink RX3 35 "Meeplehouse$Shelf" "borrower" "LMeeplehouse$Row;", Cond.methodLink RX3 91 yX3_lend, Cond.instanceMethod yX3_lend, Cond.selects RX3 yX3_lend yX3_lend, Cond.code yX3_lend cX3_lend 5 none, Cond.fieldLink RX3 38 "Meeplehouse$Shelf" "lent" "LMeeplehouse$Row;", Cond.methodLink RX3 48 yX2_put, Cond.instanceMethod yX2_put, Cond.selects RX2 yX2_put yX2_put, Cond.code yX2_put cX2_put 3 none, Cond.methodLink RX3 95 yX3_change, Cond.instanceMethod yX3_change, Cond.selects RX3 yX3_change yX3_change, Cond.code yX3_change cX3_change 4 none]
def wsX3_handOut : List Cond := .code yX3_handOut cX3_handOut 6 none :: ((wsX3_handOut_r1 ++ wsX3_handOut_r2) ++ wsX30 ++ wsX20)
def wsX3_closeLoans_r1 : List Cond := [Cond.fieldLink RX3 51 "Meeplehouse$Shelf" "copies" "I", Cond.fieldLink RX3 38 "Meeplehouse$Shelf" "lent" "LMeeplehouse$Row;", Cond.fieldLink RX3 35 "Meeplehouse$Shelf" "borrower" "LMeeplehouse$Row;", Cond.methodLink RX3 81 Lib.Math.min.name, Cond.static Lib.Math.min.name, Cond.initialized "java/lang/Math", Cond.code Lib.Math.min.name Lib.Math.min.code 2 (some .int), Cond.methodLink RX3 54 yX2_at, Cond.instanceMethod yX2_at, Cond.selects RX2 yX2_at yX2_at, Cond.initialized RX2, Cond.code yX2_at cX2_at 2 (some .int), Cond.fieldLink RX2 15 "Meeplehouse$Row" "cells" "[I", Cond.methodLink RX3 58 yX3_count, Cond.instanceMethod yX3_count, Cond.selects RX3 yX3_count yX3_count, Cond.initialized RX3, Cond.code yX3_count cX3_count 3 (some .int), Cond.fieldLink RX3 41 "Meeplehouse$Shelf" "has" "LMeeplehouse$Row;", Cond.methodLink RX3 95 yX3_change, Cond.instanceMethod yX3_change, Cond.selects RX3 yX3_change yX3_change, Cond.code yX3_change cX3_change 4 none, Cond.methodLink RX3 48 yX2_put]
def wsX3_closeLoans_r2 : List Cond := [Cond.instanceMethod yX2_put, Cond.selects RX2 yX2_put yX2_put, Cond.code yX2_put cX2_put 3 none]
def wsX3_closeLoans : List Cond := .code yX3_closeLoans cX3_closeLoans 7 (some .int) :: ((wsX3_closeLoans_r1 ++ wsX3_closeLoans_r2) ++ wsX30 ++ wsX20)
def wsX3_takeBack_r1 : List Cond := [Cond.fieldLink RX3 51 "Meeplehouse$Shelf" "copies" "I", Cond.fieldLink RX3 35 "Meeplehouse$Shelf" "borrower" "LMeeplehouse$Row;", Cond.fieldLink RX3 32 "Meeplehouse$Shelf" "holder" "LMeeplehouse$Row;", Cond.methodLink RX3 95 yX3_change, Cond.instanceMethod yX3_change, Cond.selects RX3 yX3_change yX3_change, Cond.initialized RX3, Cond.code yX3_change cX3_change 4 none, Cond.fieldLink RX3 41 "Meeplehouse$Shelf" "has" "LMeeplehouse$Row;", Cond.methodLink RX3 58 yX3_count, Cond.instanceMethod yX3_count, Cond.selects RX3 yX3_count yX3_count, Cond.code yX3_count cX3_count 3 (some .int), Cond.methodLink RX3 54 yX2_at, Cond.instanceMethod yX2_at, Cond.selects RX2 yX2_at yX2_at, Cond.initialized RX2, Cond.code yX2_at cX2_at 2 (some .int), Cond.fieldLink RX2 15 "Meeplehouse$Row" "cells" "[I", Cond.methodLink RX3 48 yX2_put, Cond.instanceMethod yX2_put, Cond.selects RX2 yX2_put yX2_put, Cond.code yX2_put cX2_put 3 none, Cond.methodLink RX3 99 yX3_closeLoans]
def wsX3_takeBack_r2 : List Cond := [Cond.instanceMethod yX3_closeLoans, Cond.selects RX3 yX3_closeLoans yX3_closeLoans, Cond.code yX3_closeLoans cX3_closeLoans 7 (some .int), Cond.fieldLink RX3 38 "Meeplehouse$Shelf" "lent" "LMeeplehouse$Row;", Cond.methodLink RX3 81 Lib.Math.min.name, Cond.static Lib.Math.min.name, Cond.initialized "java/lang/Math", Cond.code Lib.Math.min.name Lib.Math.min.code 2 (some .int)]
def wsX3_takeBack : List Cond := .code yX3_takeBack cX3_takeBack 6 (some .int) :: ((wsX3_takeBack_r1 ++ wsX3_takeBack_r2) ++ wsX30 ++ wsX20)
def wsX3_piecesLentTo : List Cond := .code yX3_piecesLentTo cX3_piecesLentTo 5 (some .int) :: ([.fieldLink RX3 51 "Meeplehouse$Shelf" "copies" "I", .fieldLink RX3 35 "Meeplehouse$Shelf" "borrower" "LMeeplehouse$Row;", .fieldLink RX3 38 "Meeplehouse$Shelf" "lent" "LMeeplehouse$Row;", .methodLink RX3 54 yX2_at, .instanceMethod yX2_at, .selects RX2 yX2_at yX2_at, .initialized RX2, .code yX2_at cX2_at 2 (some .int), .fieldLink RX2 15 "Meeplehouse$Row" "cells" "[I"] ++ wsX30 ++ wsX20)
def wsX4_init_r1 : List Cond := [Cond.methodLink RX4 1 objectInit, Cond.instanceMethod objectInit, Cond.code objectInit ⟨#[0xb1]⟩ 1 none, Cond.classLink RX4 7 RX0, Cond.instantiable RX0 9, Cond.initialized RX0, Cond.fieldLink RX4 10 "Meeplehouse" "hall" "LMeeplehouse$Hall;", Cond.classLink RX4 16 RX3, Cond.instantiable RX3 11, Cond.initialized RX3, Cond.fieldLink RX4 19 "Meeplehouse" "shelf" "LMeeplehouse$Shelf;", Cond.classLink RX4 23 RX1, Cond.instantiable RX1 5, Cond.initialized RX1, Cond.fieldLink RX4 26 "Meeplehouse" "referee" "LMeeplehouse$Referee;", Cond.instanceMethod yX0_init, Cond.code yX0_init cX0_init 1 none, Cond.methodLink RX0 3 objectInit, Cond.classLink RX0 9 RX2, Cond.instantiable RX2 1, Cond.initialized RX2, Cond.fieldLink RX0 14 "Meeplehouse$Hall" "seats" "LMeeplehouse$Row;", Cond.fieldLink RX0 20 "Meeplehouse$Hall" "sitter" "LMeeplehouse$Row;", Cond.fieldLink RX0 23 "Meeplehouse$Hall" "players" "LMeeplehouse$Row;"]
def wsX4_init_r2 : List Cond := [Cond.fieldLink RX0 26 "Meeplehouse$Hall" "stay" "LMeeplehouse$Row;", Cond.fieldLink RX0 29 "Meeplehouse$Hall" "end" "LMeeplehouse$Row;", Cond.fieldLink RX0 32 "Meeplehouse$Hall" "state" "LMeeplehouse$Row;", Cond.methodLink RX0 11 yX2_init, Cond.instanceMethod yX2_init, Cond.code yX2_init cX2_init 4 none, Cond.methodLink RX2 3 objectInit, Cond.methodLink RX2 9 Lib.Math.max.name, Cond.static Lib.Math.max.name, Cond.initialized "java/lang/Math", Cond.code Lib.Math.max.name Lib.Math.max.code 2 (some .int), Cond.arrayClass .int, Cond.fieldLink RX2 15 "Meeplehouse$Row" "cells" "[I", Cond.instanceMethod yX3_init, Cond.code yX3_init cX3_init 1 none, Cond.methodLink RX3 3 objectInit, Cond.classLink RX3 9 RX2, Cond.fieldLink RX3 14 "Meeplehouse$Shelf" "least" "LMeeplehouse$Row;", Cond.fieldLink RX3 20 "Meeplehouse$Shelf" "most" "LMeeplehouse$Row;", Cond.fieldLink RX3 23 "Meeplehouse$Shelf" "minutes" "LMeeplehouse$Row;", Cond.fieldLink RX3 26 "Meeplehouse$Shelf" "full" "LMeeplehouse$Row;", Cond.fieldLink RX3 29 "Meeplehouse$Shelf" "titleOf" "LMeeplehouse$Row;", Cond.fieldLink RX3 32 "Meeplehouse$Shelf" "holder" "LMeeplehouse$Row;", Cond.fieldLink RX3 35 "Meeplehouse$Shelf" "borrower" "LMeeplehouse$Row;"]
def wsX4_init_r3 : List Cond := [Cond.fieldLink RX3 38 "Meeplehouse$Shelf" "lent" "LMeeplehouse$Row;", Cond.fieldLink RX3 41 "Meeplehouse$Shelf" "has" "LMeeplehouse$Row;", Cond.methodLink RX3 11 yX2_init, Cond.instanceMethod yX1_init, Cond.code yX1_init cX1_init 1 none, Cond.methodLink RX1 3 objectInit, Cond.classLink RX1 9 RX2, Cond.fieldLink RX1 14 "Meeplehouse$Referee" "rules" "LMeeplehouse$Row;", Cond.fieldLink RX1 20 "Meeplehouse$Referee" "parents" "LMeeplehouse$Row;", Cond.fieldLink RX1 23 "Meeplehouse$Referee" "tests" "LMeeplehouse$Row;", Cond.fieldLink RX1 26 "Meeplehouse$Referee" "values" "LMeeplehouse$Row;", Cond.fieldLink RX1 29 "Meeplehouse$Referee" "rulings" "LMeeplehouse$Row;", Cond.methodLink RX1 11 yX2_init]
def wsX4_init : List Cond := .code yX4_init cX4_init 1 none :: ((wsX4_init_r1 ++ (wsX4_init_r2 ++ wsX4_init_r3)) ++ wsX00 ++ wsX40 ++ wsX30 ++ wsX10 ++ wsX20)
def wsX4_checkRange : List Cond := .code yX4_checkRange cX4_checkRange 3 none :: ([.classLink RX4 199 "java/lang/IllegalArgumentException", .initialized "java/lang/IllegalArgumentException"] ++ (vx_atS RX4 203 "java/lang/IllegalArgumentException" ["java/lang/RuntimeException", "java/lang/Exception"]).filter goodWord)
def wsX4_checkState : List Cond := .code yX4_checkState cX4_checkState 1 none :: ([.classLink RX4 204 "java/lang/IllegalStateException", .initialized "java/lang/IllegalStateException"] ++ (vx_atS RX4 208 "java/lang/IllegalStateException" ["java/lang/RuntimeException", "java/lang/Exception"]).filter goodWord)
def wsX4_pass : List Cond := .code yX4_pass cX4_pass 2 (some .int) :: ([.fieldLink RX4 10 "Meeplehouse" "hall" "LMeeplehouse$Hall;", .methodLink RX4 30 yX4_checkRange, .static yX4_checkRange, .initialized RX4, .code yX4_checkRange cX4_checkRange 3 none, .classLink RX4 199 "java/lang/IllegalArgumentException", .initialized "java/lang/IllegalArgumentException", .methodLink RX4 38 yX4_checkState, .static yX4_checkState, .code yX4_checkState cX4_checkState 1 none, .classLink RX4 204 "java/lang/IllegalStateException", .initialized "java/lang/IllegalStateException"] ++ wsX40 ++ wsX00 ++ (vx_atS RX4 203 "java/lang/IllegalArgumentException" ["java/lang/RuntimeException", "java/lang/Exception"]).filter goodWord ++ (vx_atS RX4 208 "java/lang/IllegalStateException" ["java/lang/RuntimeException", "java/lang/Exception"]).filter goodWord)
def wsX4_now : List Cond := .code yX4_now cX4_now 1 (some .int) :: ([.fieldLink RX4 10 "Meeplehouse" "hall" "LMeeplehouse$Hall;"] ++ wsX40 ++ wsX00)
def wsX4_addTable_r1 : List Cond := [Cond.fieldLink RX4 10 "Meeplehouse" "hall" "LMeeplehouse$Hall;", Cond.methodLink RX4 30 yX4_checkRange, Cond.static yX4_checkRange, Cond.initialized RX4, Cond.code yX4_checkRange cX4_checkRange 3 none, Cond.classLink RX4 199 "java/lang/IllegalArgumentException", Cond.initialized "java/lang/IllegalArgumentException", Cond.methodLink RX4 38 yX4_checkState, Cond.static yX4_checkState, Cond.code yX4_checkState cX4_checkState 1 none, Cond.classLink RX4 204 "java/lang/IllegalStateException", Cond.initialized "java/lang/IllegalStateException", Cond.methodLink RX4 45 yX0_putTable, Cond.instanceMethod yX0_putTable, Cond.selects RX0 yX0_putTable yX0_putTable, Cond.initialized RX0, Cond.code yX0_putTable cX0_putTable 2 (some .int), Cond.fieldLink RX0 14 "Meeplehouse$Hall" "seats" "LMeeplehouse$Row;", Cond.fieldLink RX0 35 "Meeplehouse$Hall" "tables" "I", Cond.methodLink RX0 39 yX2_put, Cond.instanceMethod yX2_put, Cond.selects RX2 yX2_put yX2_put, Cond.initialized RX2, Cond.code yX2_put cX2_put 3 none]
def wsX4_addTable_r2 : List Cond := [Cond.fieldLink RX2 15 "Meeplehouse$Row" "cells" "[I"]
def wsX4_addTable : List Cond := .code yX4_addTable cX4_addTable 2 (some .int) :: ((wsX4_addTable_r1 ++ wsX4_addTable_r2) ++ wsX40 ++ wsX00 ++ wsX20 ++ (vx_atS RX4 203 "java/lang/IllegalArgumentException" ["java/lang/RuntimeException", "java/lang/Exception"]).filter goodWord ++ (vx_atS RX4 208 "java/lang/IllegalStateException" ["java/lang/RuntimeException", "java/lang/Exception"]).filter goodWord)
def wsX4_addTitle_r1 : List Cond := [Cond.fieldLink RX4 19 "Meeplehouse" "shelf" "LMeeplehouse$Shelf;", Cond.methodLink RX4 30 yX4_checkRange, Cond.static yX4_checkRange, Cond.initialized RX4, Cond.code yX4_checkRange cX4_checkRange 3 none, Cond.classLink RX4 199 "java/lang/IllegalArgumentException", Cond.initialized "java/lang/IllegalArgumentException", Cond.methodLink RX4 38 yX4_checkState, Cond.static yX4_checkState, Cond.code yX4_checkState cX4_checkState 1 none, Cond.classLink RX4 204 "java/lang/IllegalStateException", Cond.initialized "java/lang/IllegalStateException", Cond.methodLink RX4 52 yX3_putTitle, Cond.instanceMethod yX3_putTitle, Cond.selects RX3 yX3_putTitle yX3_putTitle, Cond.initialized RX3, Cond.code yX3_putTitle cX3_putTitle 4 (some .int), Cond.fieldLink RX3 14 "Meeplehouse$Shelf" "least" "LMeeplehouse$Row;", Cond.fieldLink RX3 44 "Meeplehouse$Shelf" "titles" "I", Cond.fieldLink RX3 20 "Meeplehouse$Shelf" "most" "LMeeplehouse$Row;", Cond.fieldLink RX3 23 "Meeplehouse$Shelf" "minutes" "LMeeplehouse$Row;", Cond.methodLink RX3 48 yX2_put, Cond.instanceMethod yX2_put, Cond.selects RX2 yX2_put yX2_put]
def wsX4_addTitle_r2 : List Cond := [Cond.initialized RX2, Cond.code yX2_put cX2_put 3 none, Cond.fieldLink RX2 15 "Meeplehouse$Row" "cells" "[I", Cond.methodLink RX4 56 yX3_setFull, Cond.instanceMethod yX3_setFull, Cond.selects RX3 yX3_setFull yX3_setFull, Cond.code yX3_setFull cX3_setFull 4 none, Cond.fieldLink RX3 26 "Meeplehouse$Shelf" "full" "LMeeplehouse$Row;"]
def wsX4_addTitle : List Cond := .code yX4_addTitle cX4_addTitle 9 (some .int) :: ((wsX4_addTitle_r1 ++ wsX4_addTitle_r2) ++ wsX40 ++ wsX30 ++ wsX20 ++ (vx_atS RX4 203 "java/lang/IllegalArgumentException" ["java/lang/RuntimeException", "java/lang/Exception"]).filter goodWord ++ (vx_atS RX4 208 "java/lang/IllegalStateException" ["java/lang/RuntimeException", "java/lang/Exception"]).filter goodWord)
def wsX4_checkIndex : List Cond := .code yX4_checkIndex cX4_checkIndex 2 none :: ([.classLink RX4 192 "java/lang/IndexOutOfBoundsException", .initialized "java/lang/IndexOutOfBoundsException"] ++ (vx_atS RX4 196 "java/lang/IndexOutOfBoundsException" ["java/lang/RuntimeException", "java/lang/Exception"]).filter goodWord)
def wsX4_addCopy_r1 : List Cond := [Cond.fieldLink RX4 19 "Meeplehouse" "shelf" "LMeeplehouse$Shelf;", Cond.methodLink RX4 59 yX4_checkIndex, Cond.static yX4_checkIndex, Cond.initialized RX4, Cond.code yX4_checkIndex cX4_checkIndex 2 none, Cond.classLink RX4 192 "java/lang/IndexOutOfBoundsException", Cond.initialized "java/lang/IndexOutOfBoundsException", Cond.methodLink RX4 38 yX4_checkState, Cond.static yX4_checkState, Cond.code yX4_checkState cX4_checkState 1 none, Cond.classLink RX4 204 "java/lang/IllegalStateException", Cond.initialized "java/lang/IllegalStateException", Cond.methodLink RX4 66 yX3_putCopy, Cond.instanceMethod yX3_putCopy, Cond.selects RX3 yX3_putCopy yX3_putCopy, Cond.initialized RX3, Cond.code yX3_putCopy cX3_putCopy 4 (some .int), Cond.fieldLink RX3 51 "Meeplehouse$Shelf" "copies" "I", Cond.fieldLink RX3 29 "Meeplehouse$Shelf" "titleOf" "LMeeplehouse$Row;", Cond.fieldLink RX3 41 "Meeplehouse$Shelf" "has" "LMeeplehouse$Row;", Cond.fieldLink RX3 26 "Meeplehouse$Shelf" "full" "LMeeplehouse$Row;", Cond.methodLink RX3 48 yX2_put, Cond.instanceMethod yX2_put, Cond.selects RX2 yX2_put yX2_put]
def wsX4_addCopy_r2 : List Cond := [Cond.initialized RX2, Cond.code yX2_put cX2_put 3 none, Cond.fieldLink RX2 15 "Meeplehouse$Row" "cells" "[I", Cond.methodLink RX3 54 yX2_at, Cond.instanceMethod yX2_at, Cond.selects RX2 yX2_at yX2_at, Cond.code yX2_at cX2_at 2 (some .int)]
def wsX4_addCopy : List Cond := .code yX4_addCopy cX4_addCopy 2 (some .int) :: ((wsX4_addCopy_r1 ++ wsX4_addCopy_r2) ++ wsX40 ++ wsX30 ++ wsX20 ++ (vx_atS RX4 196 "java/lang/IndexOutOfBoundsException" ["java/lang/RuntimeException", "java/lang/Exception"]).filter goodWord ++ (vx_atS RX4 208 "java/lang/IllegalStateException" ["java/lang/RuntimeException", "java/lang/Exception"]).filter goodWord)
def wsX4_addRule_r1 : List Cond := [Cond.fieldLink RX4 19 "Meeplehouse" "shelf" "LMeeplehouse$Shelf;", Cond.fieldLink RX4 26 "Meeplehouse" "referee" "LMeeplehouse$Referee;", Cond.methodLink RX4 59 yX4_checkIndex, Cond.static yX4_checkIndex, Cond.initialized RX4, Cond.code yX4_checkIndex cX4_checkIndex 2 none, Cond.classLink RX4 192 "java/lang/IndexOutOfBoundsException", Cond.initialized "java/lang/IndexOutOfBoundsException", Cond.methodLink RX4 69 yX1_rulesOf, Cond.instanceMethod yX1_rulesOf, Cond.selects RX1 yX1_rulesOf yX1_rulesOf, Cond.initialized RX1, Cond.code yX1_rulesOf cX1_rulesOf 2 (some .int), Cond.fieldLink RX1 14 "Meeplehouse$Referee" "rules" "LMeeplehouse$Row;", Cond.methodLink RX1 32 yX2_at, Cond.instanceMethod yX2_at, Cond.selects RX2 yX2_at yX2_at, Cond.initialized RX2, Cond.code yX2_at cX2_at 2 (some .int), Cond.fieldLink RX2 15 "Meeplehouse$Row" "cells" "[I", Cond.methodLink RX4 30 yX4_checkRange, Cond.static yX4_checkRange, Cond.code yX4_checkRange cX4_checkRange 3 none, Cond.classLink RX4 199 "java/lang/IllegalArgumentException"]
def wsX4_addRule_r2 : List Cond := [Cond.initialized "java/lang/IllegalArgumentException", Cond.methodLink RX4 38 yX4_checkState, Cond.static yX4_checkState, Cond.code yX4_checkState cX4_checkState 1 none, Cond.classLink RX4 204 "java/lang/IllegalStateException", Cond.initialized "java/lang/IllegalStateException", Cond.methodLink RX4 72 yX1_putRule, Cond.instanceMethod yX1_putRule, Cond.selects RX1 yX1_putRule yX1_putRule, Cond.code yX1_putRule cX1_putRule 8 (some .int), Cond.fieldLink RX1 20 "Meeplehouse$Referee" "parents" "LMeeplehouse$Row;", Cond.fieldLink RX1 23 "Meeplehouse$Referee" "tests" "LMeeplehouse$Row;", Cond.fieldLink RX1 26 "Meeplehouse$Referee" "values" "LMeeplehouse$Row;", Cond.fieldLink RX1 29 "Meeplehouse$Referee" "rulings" "LMeeplehouse$Row;", Cond.methodLink RX1 36 yX2_put, Cond.instanceMethod yX2_put, Cond.selects RX2 yX2_put yX2_put, Cond.code yX2_put cX2_put 3 none]
def wsX4_addRule : List Cond := .code yX4_addRule cX4_addRule 6 (some .int) :: ((wsX4_addRule_r1 ++ wsX4_addRule_r2) ++ wsX40 ++ wsX30 ++ wsX10 ++ wsX20 ++ (vx_atS RX4 196 "java/lang/IndexOutOfBoundsException" ["java/lang/RuntimeException", "java/lang/Exception"]).filter goodWord ++ (vx_atS RX4 203 "java/lang/IllegalArgumentException" ["java/lang/RuntimeException", "java/lang/Exception"]).filter goodWord ++ (vx_atS RX4 208 "java/lang/IllegalStateException" ["java/lang/RuntimeException", "java/lang/Exception"]).filter goodWord)
def wsX4_arrive_r1 : List Cond := [Cond.fieldLink RX4 10 "Meeplehouse" "hall" "LMeeplehouse$Hall;", Cond.methodLink RX4 30 yX4_checkRange, Cond.static yX4_checkRange, Cond.initialized RX4, Cond.code yX4_checkRange cX4_checkRange 3 none, Cond.classLink RX4 199 "java/lang/IllegalArgumentException", Cond.initialized "java/lang/IllegalArgumentException", Cond.methodLink RX4 38 yX4_checkState, Cond.static yX4_checkState, Cond.code yX4_checkState cX4_checkState 1 none, Cond.classLink RX4 204 "java/lang/IllegalStateException", Cond.initialized "java/lang/IllegalStateException", Cond.methodLink RX4 79 yX0_welcome, Cond.instanceMethod yX0_welcome, Cond.selects RX0 yX0_welcome yX0_welcome, Cond.initialized RX0, Cond.code yX0_welcome cX0_welcome 4 (some .int), Cond.fieldLink RX0 42 "Meeplehouse$Hall" "groups" "I", Cond.fieldLink RX0 23 "Meeplehouse$Hall" "players" "LMeeplehouse$Row;", Cond.fieldLink RX0 26 "Meeplehouse$Hall" "stay" "LMeeplehouse$Row;", Cond.methodLink RX0 39 yX2_put, Cond.instanceMethod yX2_put, Cond.selects RX2 yX2_put yX2_put, Cond.initialized RX2]
def wsX4_arrive_r2 : List Cond := [Cond.code yX2_put cX2_put 3 none, Cond.fieldLink RX2 15 "Meeplehouse$Row" "cells" "[I", Cond.methodLink RX0 45 yX0_seatIfPossible, Cond.instanceMethod yX0_seatIfPossible, Cond.selects RX0 yX0_seatIfPossible yX0_seatIfPossible, Cond.code yX0_seatIfPossible cX0_seatIfPossible 5 (some .boolean), Cond.fieldLink RX0 35 "Meeplehouse$Hall" "tables" "I", Cond.methodLink RX0 49 yX2_at, Cond.instanceMethod yX2_at, Cond.selects RX2 yX2_at yX2_at, Cond.code yX2_at cX2_at 2 (some .int), Cond.methodLink RX0 57 yX0_leastWaste, Cond.instanceMethod yX0_leastWaste, Cond.selects RX0 yX0_leastWaste yX0_leastWaste, Cond.code yX0_leastWaste cX0_leastWaste 5 (some .int), Cond.methodLink RX0 60 yX0_wasteAt, Cond.instanceMethod yX0_wasteAt, Cond.selects RX0 yX0_wasteAt yX0_wasteAt, Cond.code yX0_wasteAt cX0_wasteAt 6 (some .int), Cond.fieldLink RX0 20 "Meeplehouse$Hall" "sitter" "LMeeplehouse$Row;", Cond.fieldLink RX0 14 "Meeplehouse$Hall" "seats" "LMeeplehouse$Row;", Cond.methodLink RX0 71 yX0_lesser, Cond.static yX0_lesser, Cond.code yX0_lesser cX0_lesser 2 (some .int)]
def wsX4_arrive_r3 : List Cond := [Cond.methodLink RX0 82 Lib.Math.max.name, Cond.static Lib.Math.max.name, Cond.initialized "java/lang/Math", Cond.code Lib.Math.max.name Lib.Math.max.code 2 (some .int), Cond.methodLink RX0 87 Lib.Math.min.name, Cond.static Lib.Math.min.name, Cond.code Lib.Math.min.name Lib.Math.min.code 2 (some .int), Cond.methodLink RX0 64 yX0_seat, Cond.instanceMethod yX0_seat, Cond.selects RX0 yX0_seat yX0_seat, Cond.code yX0_seat cX0_seat 5 none, Cond.fieldLink RX0 32 "Meeplehouse$Hall" "state" "LMeeplehouse$Row;", Cond.fieldLink RX0 29 "Meeplehouse$Hall" "end" "LMeeplehouse$Row;", Cond.fieldLink RX0 68 "Meeplehouse$Hall" "minute" "I"]
def wsX4_arrive : List Cond := .code yX4_arrive cX4_arrive 3 (some .int) :: ((wsX4_arrive_r1 ++ (wsX4_arrive_r2 ++ wsX4_arrive_r3)) ++ wsX40 ++ wsX00 ++ wsX20 ++ (vx_atS RX4 203 "java/lang/IllegalArgumentException" ["java/lang/RuntimeException", "java/lang/Exception"]).filter goodWord ++ (vx_atS RX4 208 "java/lang/IllegalStateException" ["java/lang/RuntimeException", "java/lang/Exception"]).filter goodWord)
def wsX4_leave_r1 : List Cond := [Cond.fieldLink RX4 10 "Meeplehouse" "hall" "LMeeplehouse$Hall;", Cond.fieldLink RX4 19 "Meeplehouse" "shelf" "LMeeplehouse$Shelf;", Cond.methodLink RX4 59 yX4_checkIndex, Cond.static yX4_checkIndex, Cond.initialized RX4, Cond.code yX4_checkIndex cX4_checkIndex 2 none, Cond.classLink RX4 192 "java/lang/IndexOutOfBoundsException", Cond.initialized "java/lang/IndexOutOfBoundsException", Cond.methodLink RX4 83 yX3_heldBy, Cond.instanceMethod yX3_heldBy, Cond.selects RX3 yX3_heldBy yX3_heldBy, Cond.initialized RX3, Cond.code yX3_heldBy cX3_heldBy 3 (some .int), Cond.fieldLink RX3 51 "Meeplehouse$Shelf" "copies" "I", Cond.fieldLink RX3 32 "Meeplehouse$Shelf" "holder" "LMeeplehouse$Row;", Cond.methodLink RX3 54 yX2_at, Cond.instanceMethod yX2_at, Cond.selects RX2 yX2_at yX2_at, Cond.initialized RX2, Cond.code yX2_at cX2_at 2 (some .int), Cond.fieldLink RX2 15 "Meeplehouse$Row" "cells" "[I", Cond.methodLink RX4 86 yX0_isGone, Cond.instanceMethod yX0_isGone, Cond.selects RX0 yX0_isGone yX0_isGone]
def wsX4_leave_r2 : List Cond := [Cond.initialized RX0, Cond.code yX0_isGone cX0_isGone 2 (some .boolean), Cond.fieldLink RX0 32 "Meeplehouse$Hall" "state" "LMeeplehouse$Row;", Cond.methodLink RX0 49 yX2_at, Cond.methodLink RX4 38 yX4_checkState, Cond.static yX4_checkState, Cond.code yX4_checkState cX4_checkState 1 none, Cond.classLink RX4 204 "java/lang/IllegalStateException", Cond.initialized "java/lang/IllegalStateException", Cond.methodLink RX4 90 yX0_dismiss, Cond.instanceMethod yX0_dismiss, Cond.selects RX0 yX0_dismiss yX0_dismiss, Cond.code yX0_dismiss cX0_dismiss 3 (some .int), Cond.fieldLink RX0 35 "Meeplehouse$Hall" "tables" "I", Cond.fieldLink RX0 20 "Meeplehouse$Hall" "sitter" "LMeeplehouse$Row;", Cond.methodLink RX0 39 yX2_put, Cond.instanceMethod yX2_put, Cond.selects RX2 yX2_put yX2_put, Cond.code yX2_put cX2_put 3 none, Cond.methodLink RX0 53 yX0_seatWaiting, Cond.instanceMethod yX0_seatWaiting, Cond.selects RX0 yX0_seatWaiting yX0_seatWaiting, Cond.code yX0_seatWaiting cX0_seatWaiting 3 (some .int), Cond.fieldLink RX0 42 "Meeplehouse$Hall" "groups" "I"]
def wsX4_leave_r3 : List Cond := [Cond.methodLink RX0 45 yX0_seatIfPossible, Cond.instanceMethod yX0_seatIfPossible, Cond.selects RX0 yX0_seatIfPossible yX0_seatIfPossible, Cond.code yX0_seatIfPossible cX0_seatIfPossible 5 (some .boolean), Cond.fieldLink RX0 23 "Meeplehouse$Hall" "players" "LMeeplehouse$Row;", Cond.methodLink RX0 57 yX0_leastWaste, Cond.instanceMethod yX0_leastWaste, Cond.selects RX0 yX0_leastWaste yX0_leastWaste, Cond.code yX0_leastWaste cX0_leastWaste 5 (some .int), Cond.methodLink RX0 60 yX0_wasteAt, Cond.instanceMethod yX0_wasteAt, Cond.selects RX0 yX0_wasteAt yX0_wasteAt, Cond.code yX0_wasteAt cX0_wasteAt 6 (some .int), Cond.fieldLink RX0 14 "Meeplehouse$Hall" "seats" "LMeeplehouse$Row;", Cond.methodLink RX0 71 yX0_lesser, Cond.static yX0_lesser, Cond.code yX0_lesser cX0_lesser 2 (some .int), Cond.methodLink RX0 82 Lib.Math.max.name, Cond.static Lib.Math.max.name, Cond.initialized "java/lang/Math", Cond.code Lib.Math.max.name Lib.Math.max.code 2 (some .int), Cond.methodLink RX0 87 Lib.Math.min.name, Cond.static Lib.Math.min.name, Cond.code Lib.Math.min.name Lib.Math.min.code 2 (some .int)]
def wsX4_leave_r4 : List Cond := [Cond.methodLink RX0 64 yX0_seat, Cond.instanceMethod yX0_seat, Cond.selects RX0 yX0_seat yX0_seat, Cond.code yX0_seat cX0_seat 5 none, Cond.fieldLink RX0 29 "Meeplehouse$Hall" "end" "LMeeplehouse$Row;", Cond.fieldLink RX0 68 "Meeplehouse$Hall" "minute" "I", Cond.fieldLink RX0 26 "Meeplehouse$Hall" "stay" "LMeeplehouse$Row;"]
def wsX4_leave : List Cond := .code yX4_leave cX4_leave 2 (some .int) :: ((wsX4_leave_r1 ++ (wsX4_leave_r2 ++ (wsX4_leave_r3 ++ wsX4_leave_r4))) ++ wsX40 ++ wsX00 ++ wsX30 ++ wsX20 ++ (vx_atS RX4 196 "java/lang/IndexOutOfBoundsException" ["java/lang/RuntimeException", "java/lang/Exception"]).filter goodWord ++ (vx_atS RX4 208 "java/lang/IllegalStateException" ["java/lang/RuntimeException", "java/lang/Exception"]).filter goodWord)
def wsX4_tableOf : List Cond := .code yX4_tableOf cX4_tableOf 2 (some .int) :: ([.fieldLink RX4 10 "Meeplehouse" "hall" "LMeeplehouse$Hall;", .methodLink RX4 59 yX4_checkIndex, .static yX4_checkIndex, .initialized RX4, .code yX4_checkIndex cX4_checkIndex 2 none, .classLink RX4 192 "java/lang/IndexOutOfBoundsException", .initialized "java/lang/IndexOutOfBoundsException", .methodLink RX4 93 yX0_firstTable, .instanceMethod yX0_firstTable, .selects RX0 yX0_firstTable yX0_firstTable, .initialized RX0, .code yX0_firstTable cX0_firstTable 3 (some .int), .fieldLink RX0 35 "Meeplehouse$Hall" "tables" "I", .fieldLink RX0 20 "Meeplehouse$Hall" "sitter" "LMeeplehouse$Row;", .methodLink RX0 49 yX2_at, .instanceMethod yX2_at, .selects RX2 yX2_at yX2_at, .initialized RX2, .code yX2_at cX2_at 2 (some .int), .fieldLink RX2 15 "Meeplehouse$Row" "cells" "[I"] ++ wsX40 ++ wsX00 ++ wsX20 ++ (vx_atS RX4 196 "java/lang/IndexOutOfBoundsException" ["java/lang/RuntimeException", "java/lang/Exception"]).filter goodWord)
def wsX4_tablesOf : List Cond := .code yX4_tablesOf cX4_tablesOf 2 (some .int) :: ([.fieldLink RX4 10 "Meeplehouse" "hall" "LMeeplehouse$Hall;", .methodLink RX4 59 yX4_checkIndex, .static yX4_checkIndex, .initialized RX4, .code yX4_checkIndex cX4_checkIndex 2 none, .classLink RX4 192 "java/lang/IndexOutOfBoundsException", .initialized "java/lang/IndexOutOfBoundsException", .methodLink RX4 96 yX0_countTables, .instanceMethod yX0_countTables, .selects RX0 yX0_countTables yX0_countTables, .initialized RX0, .code yX0_countTables cX0_countTables 4 (some .int), .fieldLink RX0 35 "Meeplehouse$Hall" "tables" "I", .fieldLink RX0 20 "Meeplehouse$Hall" "sitter" "LMeeplehouse$Row;", .methodLink RX0 49 yX2_at, .instanceMethod yX2_at, .selects RX2 yX2_at yX2_at, .initialized RX2, .code yX2_at cX2_at 2 (some .int), .fieldLink RX2 15 "Meeplehouse$Row" "cells" "[I"] ++ wsX40 ++ wsX00 ++ wsX20 ++ (vx_atS RX4 196 "java/lang/IndexOutOfBoundsException" ["java/lang/RuntimeException", "java/lang/Exception"]).filter goodWord)
def wsX4_waiting : List Cond := .code yX4_waiting cX4_waiting 1 (some .int) :: ([.fieldLink RX4 10 "Meeplehouse" "hall" "LMeeplehouse$Hall;", .methodLink RX4 99 yX0_countWaiting, .instanceMethod yX0_countWaiting, .selects RX0 yX0_countWaiting yX0_countWaiting, .initialized RX0, .code yX0_countWaiting cX0_countWaiting 3 (some .int), .fieldLink RX0 42 "Meeplehouse$Hall" "groups" "I", .fieldLink RX0 32 "Meeplehouse$Hall" "state" "LMeeplehouse$Row;", .methodLink RX0 49 yX2_at, .instanceMethod yX2_at, .selects RX2 yX2_at yX2_at, .initialized RX2, .code yX2_at cX2_at 2 (some .int), .fieldLink RX2 15 "Meeplehouse$Row" "cells" "[I"] ++ wsX40 ++ wsX00 ++ wsX20)
def wsX4_waste_r1 : List Cond := [Cond.fieldLink RX4 10 "Meeplehouse" "hall" "LMeeplehouse$Hall;", Cond.methodLink RX4 30 yX4_checkRange, Cond.static yX4_checkRange, Cond.initialized RX4, Cond.code yX4_checkRange cX4_checkRange 3 none, Cond.classLink RX4 199 "java/lang/IllegalArgumentException", Cond.initialized "java/lang/IllegalArgumentException", Cond.methodLink RX4 103 yX0_leastWaste, Cond.instanceMethod yX0_leastWaste, Cond.selects RX0 yX0_leastWaste yX0_leastWaste, Cond.initialized RX0, Cond.code yX0_leastWaste cX0_leastWaste 5 (some .int), Cond.fieldLink RX0 35 "Meeplehouse$Hall" "tables" "I", Cond.methodLink RX0 60 yX0_wasteAt, Cond.instanceMethod yX0_wasteAt, Cond.selects RX0 yX0_wasteAt yX0_wasteAt, Cond.code yX0_wasteAt cX0_wasteAt 6 (some .int), Cond.fieldLink RX0 20 "Meeplehouse$Hall" "sitter" "LMeeplehouse$Row;", Cond.fieldLink RX0 14 "Meeplehouse$Hall" "seats" "LMeeplehouse$Row;", Cond.methodLink RX0 49 yX2_at, Cond.instanceMethod yX2_at, Cond.selects RX2 yX2_at yX2_at, Cond.initialized RX2, Cond.code yX2_at cX2_at 2 (some .int)]
def wsX4_waste_r2 : List Cond := [Cond.fieldLink RX2 15 "Meeplehouse$Row" "cells" "[I", Cond.methodLink RX0 71 yX0_lesser, Cond.static yX0_lesser, Cond.code yX0_lesser cX0_lesser 2 (some .int), Cond.methodLink RX0 82 Lib.Math.max.name, Cond.static Lib.Math.max.name, Cond.initialized "java/lang/Math", Cond.code Lib.Math.max.name Lib.Math.max.code 2 (some .int), Cond.methodLink RX0 87 Lib.Math.min.name, Cond.static Lib.Math.min.name, Cond.code Lib.Math.min.name Lib.Math.min.code 2 (some .int)]
def wsX4_waste : List Cond := .code yX4_waste cX4_waste 2 (some .int) :: ((wsX4_waste_r1 ++ wsX4_waste_r2) ++ wsX40 ++ wsX00 ++ wsX20 ++ (vx_atS RX4 203 "java/lang/IllegalArgumentException" ["java/lang/RuntimeException", "java/lang/Exception"]).filter goodWord)
def wsX4_wasteByAll_r1 : List Cond := [Cond.fieldLink RX4 10 "Meeplehouse" "hall" "LMeeplehouse$Hall;", Cond.methodLink RX4 30 yX4_checkRange, Cond.static yX4_checkRange, Cond.initialized RX4, Cond.code yX4_checkRange cX4_checkRange 3 none, Cond.classLink RX4 199 "java/lang/IllegalArgumentException", Cond.initialized "java/lang/IllegalArgumentException", Cond.methodLink RX4 106 yX0_leastWasteOfSets, Cond.instanceMethod yX0_leastWasteOfSets, Cond.selects RX0 yX0_leastWasteOfSets yX0_leastWasteOfSets, Cond.initialized RX0, Cond.code yX0_leastWasteOfSets cX0_leastWasteOfSets 4 (some .int), Cond.fieldLink RX0 35 "Meeplehouse$Hall" "tables" "I", Cond.methodLink RX0 75 yX0_wasteOfSet, Cond.instanceMethod yX0_wasteOfSet, Cond.selects RX0 yX0_wasteOfSet yX0_wasteOfSet, Cond.code yX0_wasteOfSet cX0_wasteOfSet 7 (some .int), Cond.fieldLink RX0 20 "Meeplehouse$Hall" "sitter" "LMeeplehouse$Row;", Cond.fieldLink RX0 14 "Meeplehouse$Hall" "seats" "LMeeplehouse$Row;", Cond.static yX4_contains, Cond.code yX4_contains cX4_contains 2 (some .boolean), Cond.methodLink RX0 49 yX2_at, Cond.instanceMethod yX2_at, Cond.selects RX2 yX2_at yX2_at]
def wsX4_wasteByAll_r2 : List Cond := [Cond.initialized RX2, Cond.code yX2_at cX2_at 2 (some .int), Cond.fieldLink RX2 15 "Meeplehouse$Row" "cells" "[I", Cond.methodLink RX0 71 yX0_lesser, Cond.static yX0_lesser, Cond.code yX0_lesser cX0_lesser 2 (some .int), Cond.methodLink RX0 82 Lib.Math.max.name, Cond.static Lib.Math.max.name, Cond.initialized "java/lang/Math", Cond.code Lib.Math.max.name Lib.Math.max.code 2 (some .int), Cond.methodLink RX0 87 Lib.Math.min.name, Cond.static Lib.Math.min.name, Cond.code Lib.Math.min.name Lib.Math.min.code 2 (some .int)]
def wsX4_wasteByAll : List Cond := .code yX4_wasteByAll cX4_wasteByAll 2 (some .int) :: ((wsX4_wasteByAll_r1 ++ wsX4_wasteByAll_r2) ++ wsX40 ++ wsX00 ++ wsX20 ++ (vx_atS RX4 203 "java/lang/IllegalArgumentException" ["java/lang/RuntimeException", "java/lang/Exception"]).filter goodWord)
def wsX4_left_r1 : List Cond := [Cond.fieldLink RX4 10 "Meeplehouse" "hall" "LMeeplehouse$Hall;", Cond.methodLink RX4 59 yX4_checkIndex, Cond.static yX4_checkIndex, Cond.initialized RX4, Cond.code yX4_checkIndex cX4_checkIndex 2 none, Cond.classLink RX4 192 "java/lang/IndexOutOfBoundsException", Cond.initialized "java/lang/IndexOutOfBoundsException", Cond.methodLink RX4 109 yX0_isSeated, Cond.instanceMethod yX0_isSeated, Cond.selects RX0 yX0_isSeated yX0_isSeated, Cond.initialized RX0, Cond.code yX0_isSeated cX0_isSeated 2 (some .boolean), Cond.fieldLink RX0 32 "Meeplehouse$Hall" "state" "LMeeplehouse$Row;", Cond.methodLink RX0 49 yX2_at, Cond.instanceMethod yX2_at, Cond.selects RX2 yX2_at yX2_at, Cond.initialized RX2, Cond.code yX2_at cX2_at 2 (some .int), Cond.fieldLink RX2 15 "Meeplehouse$Row" "cells" "[I", Cond.methodLink RX4 38 yX4_checkState, Cond.static yX4_checkState, Cond.code yX4_checkState cX4_checkState 1 none, Cond.classLink RX4 204 "java/lang/IllegalStateException", Cond.initialized "java/lang/IllegalStateException"]
def wsX4_left_r2 : List Cond := [Cond.methodLink RX4 112 yX0_minutesLeft, Cond.instanceMethod yX0_minutesLeft, Cond.selects RX0 yX0_minutesLeft yX0_minutesLeft, Cond.code yX0_minutesLeft cX0_minutesLeft 2 (some .int), Cond.fieldLink RX0 29 "Meeplehouse$Hall" "end" "LMeeplehouse$Row;", Cond.fieldLink RX0 68 "Meeplehouse$Hall" "minute" "I", Cond.methodLink RX0 82 Lib.Math.max.name, Cond.static Lib.Math.max.name, Cond.initialized "java/lang/Math", Cond.code Lib.Math.max.name Lib.Math.max.code 2 (some .int)]
def wsX4_left : List Cond := .code yX4_left cX4_left 2 (some .int) :: ((wsX4_left_r1 ++ wsX4_left_r2) ++ wsX40 ++ wsX00 ++ wsX20 ++ (vx_atS RX4 196 "java/lang/IndexOutOfBoundsException" ["java/lang/RuntimeException", "java/lang/Exception"]).filter goodWord ++ (vx_atS RX4 208 "java/lang/IllegalStateException" ["java/lang/RuntimeException", "java/lang/Exception"]).filter goodWord)
def wsX4_isOffered_r1 : List Cond := [Cond.fieldLink RX4 10 "Meeplehouse" "hall" "LMeeplehouse$Hall;", Cond.fieldLink RX4 19 "Meeplehouse" "shelf" "LMeeplehouse$Shelf;", Cond.methodLink RX4 109 yX0_isSeated, Cond.instanceMethod yX0_isSeated, Cond.selects RX0 yX0_isSeated yX0_isSeated, Cond.initialized RX0, Cond.code yX0_isSeated cX0_isSeated 2 (some .boolean), Cond.fieldLink RX0 32 "Meeplehouse$Hall" "state" "LMeeplehouse$Row;", Cond.methodLink RX0 49 yX2_at, Cond.instanceMethod yX2_at, Cond.selects RX2 yX2_at yX2_at, Cond.initialized RX2, Cond.code yX2_at cX2_at 2 (some .int), Cond.fieldLink RX2 15 "Meeplehouse$Row" "cells" "[I", Cond.methodLink RX4 83 yX3_heldBy, Cond.instanceMethod yX3_heldBy, Cond.selects RX3 yX3_heldBy yX3_heldBy, Cond.initialized RX3, Cond.code yX3_heldBy cX3_heldBy 3 (some .int), Cond.fieldLink RX3 51 "Meeplehouse$Shelf" "copies" "I", Cond.fieldLink RX3 32 "Meeplehouse$Shelf" "holder" "LMeeplehouse$Row;", Cond.methodLink RX3 54 yX2_at, Cond.methodLink RX4 173 yX2_at, Cond.methodLink RX4 112 yX0_minutesLeft]
def wsX4_isOffered_r2 : List Cond := [Cond.instanceMethod yX0_minutesLeft, Cond.selects RX0 yX0_minutesLeft yX0_minutesLeft, Cond.code yX0_minutesLeft cX0_minutesLeft 2 (some .int), Cond.fieldLink RX0 29 "Meeplehouse$Hall" "end" "LMeeplehouse$Row;", Cond.fieldLink RX0 68 "Meeplehouse$Hall" "minute" "I", Cond.methodLink RX0 82 Lib.Math.max.name, Cond.static Lib.Math.max.name, Cond.initialized "java/lang/Math", Cond.code Lib.Math.max.name Lib.Math.max.code 2 (some .int), Cond.methodLink RX4 178 yX3_suits, Cond.instanceMethod yX3_suits, Cond.selects RX3 yX3_suits yX3_suits, Cond.code yX3_suits cX3_suits 4 (some .boolean), Cond.fieldLink RX3 14 "Meeplehouse$Shelf" "least" "LMeeplehouse$Row;", Cond.fieldLink RX3 20 "Meeplehouse$Shelf" "most" "LMeeplehouse$Row;", Cond.fieldLink RX3 23 "Meeplehouse$Shelf" "minutes" "LMeeplehouse$Row;", Cond.methodLink RX4 130 yX3_bestCopy, Cond.instanceMethod yX3_bestCopy, Cond.selects RX3 yX3_bestCopy yX3_bestCopy, Cond.code yX3_bestCopy cX3_bestCopy 6 (some .int), Cond.fieldLink RX3 29 "Meeplehouse$Shelf" "titleOf" "LMeeplehouse$Row;", Cond.methodLink RX3 69 yX3_countLenders, Cond.instanceMethod yX3_countLenders, Cond.selects RX3 yX3_countLenders yX3_countLenders]
def wsX4_isOffered_r3 : List Cond := [Cond.code yX3_countLenders cX3_countLenders 6 (some .int), Cond.methodLink RX3 81 Lib.Math.min.name, Cond.static Lib.Math.min.name, Cond.code Lib.Math.min.name Lib.Math.min.code 2 (some .int), Cond.methodLink RX3 72 yX3_place, Cond.instanceMethod yX3_place, Cond.selects RX3 yX3_place yX3_place, Cond.code yX3_place cX3_place 2 (some .int), Cond.fieldLink RX3 35 "Meeplehouse$Shelf" "borrower" "LMeeplehouse$Row;", Cond.methodLink RX3 75 yX3_lack, Cond.instanceMethod yX3_lack, Cond.selects RX3 yX3_lack yX3_lack, Cond.code yX3_lack cX3_lack 3 (some .int), Cond.fieldLink RX3 26 "Meeplehouse$Shelf" "full" "LMeeplehouse$Row;", Cond.fieldLink RX3 41 "Meeplehouse$Shelf" "has" "LMeeplehouse$Row;", Cond.methodLink RX3 78 yX3_mayLend, Cond.instanceMethod yX3_mayLend, Cond.selects RX3 yX3_mayLend yX3_mayLend, Cond.code yX3_mayLend cX3_mayLend 3 (some .boolean), Cond.methodLink RX3 58 yX3_count, Cond.instanceMethod yX3_count, Cond.selects RX3 yX3_count yX3_count, Cond.code yX3_count cX3_count 3 (some .int), Cond.methodLink RX3 86 yJ6_bitCount_0f7a4]
def wsX4_isOffered_r4 : List Cond := [Cond.static yJ6_bitCount_0f7a4, Cond.initialized RJ6, Cond.code yJ6_bitCount_0f7a4 cJ6_bitCount_0f7a4 1 (some .int), Cond.constant RJ6 265 (1431655765), Cond.constant RJ6 266 (858993459), Cond.constant RJ6 267 (252645135)]
def wsX4_isOffered : List Cond := .code yX4_isOffered cX4_isOffered 3 (some .boolean) :: ((wsX4_isOffered_r1 ++ (wsX4_isOffered_r2 ++ (wsX4_isOffered_r3 ++ wsX4_isOffered_r4))) ++ wsX40 ++ wsX00 ++ wsX20 ++ wsX30)
def wsX4_offeredTitles_r1 : List Cond := [Cond.fieldLink RX4 19 "Meeplehouse" "shelf" "LMeeplehouse$Shelf;", Cond.methodLink RX4 126 yX4_isOffered, Cond.instanceMethod yX4_isOffered, Cond.selects RX4 yX4_isOffered yX4_isOffered, Cond.initialized RX4, Cond.code yX4_isOffered cX4_isOffered 3 (some .boolean), Cond.fieldLink RX4 10 "Meeplehouse" "hall" "LMeeplehouse$Hall;", Cond.methodLink RX4 109 yX0_isSeated, Cond.instanceMethod yX0_isSeated, Cond.selects RX0 yX0_isSeated yX0_isSeated, Cond.initialized RX0, Cond.code yX0_isSeated cX0_isSeated 2 (some .boolean), Cond.fieldLink RX0 32 "Meeplehouse$Hall" "state" "LMeeplehouse$Row;", Cond.methodLink RX0 49 yX2_at, Cond.instanceMethod yX2_at, Cond.selects RX2 yX2_at yX2_at, Cond.initialized RX2, Cond.code yX2_at cX2_at 2 (some .int), Cond.fieldLink RX2 15 "Meeplehouse$Row" "cells" "[I", Cond.methodLink RX4 83 yX3_heldBy, Cond.instanceMethod yX3_heldBy, Cond.selects RX3 yX3_heldBy yX3_heldBy, Cond.initialized RX3, Cond.code yX3_heldBy cX3_heldBy 3 (some .int)]
def wsX4_offeredTitles_r2 : List Cond := [Cond.fieldLink RX3 51 "Meeplehouse$Shelf" "copies" "I", Cond.fieldLink RX3 32 "Meeplehouse$Shelf" "holder" "LMeeplehouse$Row;", Cond.methodLink RX3 54 yX2_at, Cond.methodLink RX4 173 yX2_at, Cond.methodLink RX4 112 yX0_minutesLeft, Cond.instanceMethod yX0_minutesLeft, Cond.selects RX0 yX0_minutesLeft yX0_minutesLeft, Cond.code yX0_minutesLeft cX0_minutesLeft 2 (some .int), Cond.fieldLink RX0 29 "Meeplehouse$Hall" "end" "LMeeplehouse$Row;", Cond.fieldLink RX0 68 "Meeplehouse$Hall" "minute" "I", Cond.methodLink RX0 82 Lib.Math.max.name, Cond.static Lib.Math.max.name, Cond.initialized "java/lang/Math", Cond.code Lib.Math.max.name Lib.Math.max.code 2 (some .int), Cond.methodLink RX4 178 yX3_suits, Cond.instanceMethod yX3_suits, Cond.selects RX3 yX3_suits yX3_suits, Cond.code yX3_suits cX3_suits 4 (some .boolean), Cond.fieldLink RX3 14 "Meeplehouse$Shelf" "least" "LMeeplehouse$Row;", Cond.fieldLink RX3 20 "Meeplehouse$Shelf" "most" "LMeeplehouse$Row;", Cond.fieldLink RX3 23 "Meeplehouse$Shelf" "minutes" "LMeeplehouse$Row;", Cond.methodLink RX4 130 yX3_bestCopy, Cond.instanceMethod yX3_bestCopy, Cond.selects RX3 yX3_bestCopy yX3_bestCopy]
def wsX4_offeredTitles_r3 : List Cond := [Cond.code yX3_bestCopy cX3_bestCopy 6 (some .int), Cond.fieldLink RX3 29 "Meeplehouse$Shelf" "titleOf" "LMeeplehouse$Row;", Cond.methodLink RX3 69 yX3_countLenders, Cond.instanceMethod yX3_countLenders, Cond.selects RX3 yX3_countLenders yX3_countLenders, Cond.code yX3_countLenders cX3_countLenders 6 (some .int), Cond.methodLink RX3 81 Lib.Math.min.name, Cond.static Lib.Math.min.name, Cond.code Lib.Math.min.name Lib.Math.min.code 2 (some .int), Cond.methodLink RX3 72 yX3_place, Cond.instanceMethod yX3_place, Cond.selects RX3 yX3_place yX3_place, Cond.code yX3_place cX3_place 2 (some .int), Cond.fieldLink RX3 35 "Meeplehouse$Shelf" "borrower" "LMeeplehouse$Row;", Cond.methodLink RX3 75 yX3_lack, Cond.instanceMethod yX3_lack, Cond.selects RX3 yX3_lack yX3_lack, Cond.code yX3_lack cX3_lack 3 (some .int), Cond.fieldLink RX3 26 "Meeplehouse$Shelf" "full" "LMeeplehouse$Row;", Cond.fieldLink RX3 41 "Meeplehouse$Shelf" "has" "LMeeplehouse$Row;", Cond.methodLink RX3 78 yX3_mayLend, Cond.instanceMethod yX3_mayLend, Cond.selects RX3 yX3_mayLend yX3_mayLend, Cond.code yX3_mayLend cX3_mayLend 3 (some .boolean)]
def wsX4_offeredTitles_r4 : List Cond := [Cond.methodLink RX3 58 yX3_count, Cond.instanceMethod yX3_count, Cond.selects RX3 yX3_count yX3_count, Cond.code yX3_count cX3_count 3 (some .int), Cond.methodLink RX3 86 yJ6_bitCount_0f7a4, Cond.static yJ6_bitCount_0f7a4, Cond.initialized RJ6, Cond.code yJ6_bitCount_0f7a4 cJ6_bitCount_0f7a4 1 (some .int), Cond.constant RJ6 265 (1431655765), Cond.constant RJ6 266 (858993459), Cond.constant RJ6 267 (252645135)]
def wsX4_offeredTitles : List Cond := .code yX4_offeredTitles cX4_offeredTitles 4 (some .int) :: ((wsX4_offeredTitles_r1 ++ (wsX4_offeredTitles_r2 ++ (wsX4_offeredTitles_r3 ++ wsX4_offeredTitles_r4))) ++ wsX40 ++ wsX30 ++ wsX00 ++ wsX20)
def wsX4_offers_r1 : List Cond := [Cond.fieldLink RX4 10 "Meeplehouse" "hall" "LMeeplehouse$Hall;", Cond.methodLink RX4 59 yX4_checkIndex, Cond.static yX4_checkIndex, Cond.initialized RX4, Cond.code yX4_checkIndex cX4_checkIndex 2 none, Cond.classLink RX4 192 "java/lang/IndexOutOfBoundsException", Cond.initialized "java/lang/IndexOutOfBoundsException", Cond.methodLink RX4 115 yX4_offeredTitles, Cond.instanceMethod yX4_offeredTitles, Cond.selects RX4 yX4_offeredTitles yX4_offeredTitles, Cond.code yX4_offeredTitles cX4_offeredTitles 4 (some .int), Cond.fieldLink RX4 19 "Meeplehouse" "shelf" "LMeeplehouse$Shelf;", Cond.methodLink RX4 126 yX4_isOffered, Cond.instanceMethod yX4_isOffered, Cond.selects RX4 yX4_isOffered yX4_isOffered, Cond.code yX4_isOffered cX4_isOffered 3 (some .boolean), Cond.methodLink RX4 109 yX0_isSeated, Cond.instanceMethod yX0_isSeated, Cond.selects RX0 yX0_isSeated yX0_isSeated, Cond.initialized RX0, Cond.code yX0_isSeated cX0_isSeated 2 (some .boolean), Cond.fieldLink RX0 32 "Meeplehouse$Hall" "state" "LMeeplehouse$Row;", Cond.methodLink RX0 49 yX2_at, Cond.instanceMethod yX2_at]
def wsX4_offers_r2 : List Cond := [Cond.selects RX2 yX2_at yX2_at, Cond.initialized RX2, Cond.code yX2_at cX2_at 2 (some .int), Cond.fieldLink RX2 15 "Meeplehouse$Row" "cells" "[I", Cond.methodLink RX4 83 yX3_heldBy, Cond.instanceMethod yX3_heldBy, Cond.selects RX3 yX3_heldBy yX3_heldBy, Cond.initialized RX3, Cond.code yX3_heldBy cX3_heldBy 3 (some .int), Cond.fieldLink RX3 51 "Meeplehouse$Shelf" "copies" "I", Cond.fieldLink RX3 32 "Meeplehouse$Shelf" "holder" "LMeeplehouse$Row;", Cond.methodLink RX3 54 yX2_at, Cond.methodLink RX4 173 yX2_at, Cond.methodLink RX4 112 yX0_minutesLeft, Cond.instanceMethod yX0_minutesLeft, Cond.selects RX0 yX0_minutesLeft yX0_minutesLeft, Cond.code yX0_minutesLeft cX0_minutesLeft 2 (some .int), Cond.fieldLink RX0 29 "Meeplehouse$Hall" "end" "LMeeplehouse$Row;", Cond.fieldLink RX0 68 "Meeplehouse$Hall" "minute" "I", Cond.methodLink RX0 82 Lib.Math.max.name, Cond.static Lib.Math.max.name, Cond.initialized "java/lang/Math", Cond.code Lib.Math.max.name Lib.Math.max.code 2 (some .int), Cond.methodLink RX4 178 yX3_suits]
def wsX4_offers_r3 : List Cond := [Cond.instanceMethod yX3_suits, Cond.selects RX3 yX3_suits yX3_suits, Cond.code yX3_suits cX3_suits 4 (some .boolean), Cond.fieldLink RX3 14 "Meeplehouse$Shelf" "least" "LMeeplehouse$Row;", Cond.fieldLink RX3 20 "Meeplehouse$Shelf" "most" "LMeeplehouse$Row;", Cond.fieldLink RX3 23 "Meeplehouse$Shelf" "minutes" "LMeeplehouse$Row;", Cond.methodLink RX4 130 yX3_bestCopy, Cond.instanceMethod yX3_bestCopy, Cond.selects RX3 yX3_bestCopy yX3_bestCopy, Cond.code yX3_bestCopy cX3_bestCopy 6 (some .int), Cond.fieldLink RX3 29 "Meeplehouse$Shelf" "titleOf" "LMeeplehouse$Row;", Cond.methodLink RX3 69 yX3_countLenders, Cond.instanceMethod yX3_countLenders, Cond.selects RX3 yX3_countLenders yX3_countLenders, Cond.code yX3_countLenders cX3_countLenders 6 (some .int), Cond.methodLink RX3 81 Lib.Math.min.name, Cond.static Lib.Math.min.name, Cond.code Lib.Math.min.name Lib.Math.min.code 2 (some .int), Cond.methodLink RX3 72 yX3_place, Cond.instanceMethod yX3_place, Cond.selects RX3 yX3_place yX3_place, Cond.code yX3_place cX3_place 2 (some .int), Cond.fieldLink RX3 35 "Meeplehouse$Shelf" "borrower" "LMeeplehouse$Row;", Cond.methodLink RX3 75 yX3_lack]
def wsX4_offers_r4 : List Cond := [Cond.instanceMethod yX3_lack, Cond.selects RX3 yX3_lack yX3_lack, Cond.code yX3_lack cX3_lack 3 (some .int), Cond.fieldLink RX3 26 "Meeplehouse$Shelf" "full" "LMeeplehouse$Row;", Cond.fieldLink RX3 41 "Meeplehouse$Shelf" "has" "LMeeplehouse$Row;", Cond.methodLink RX3 78 yX3_mayLend, Cond.instanceMethod yX3_mayLend, Cond.selects RX3 yX3_mayLend yX3_mayLend, Cond.code yX3_mayLend cX3_mayLend 3 (some .boolean), Cond.methodLink RX3 58 yX3_count, Cond.instanceMethod yX3_count, Cond.selects RX3 yX3_count yX3_count, Cond.code yX3_count cX3_count 3 (some .int), Cond.methodLink RX3 86 yJ6_bitCount_0f7a4, Cond.static yJ6_bitCount_0f7a4, Cond.initialized RJ6, Cond.code yJ6_bitCount_0f7a4 cJ6_bitCount_0f7a4 1 (some .int), Cond.constant RJ6 265 (1431655765), Cond.constant RJ6 266 (858993459), Cond.constant RJ6 267 (252645135), Cond.methodLink RX4 118 yJ6_bitCount_0f7a4]
def wsX4_offers : List Cond := .code yX4_offers cX4_offers 2 (some .int) :: ((wsX4_offers_r1 ++ (wsX4_offers_r2 ++ (wsX4_offers_r3 ++ wsX4_offers_r4))) ++ wsX40 ++ wsX00 ++ wsX30 ++ wsX20 ++ (vx_atS RX4 196 "java/lang/IndexOutOfBoundsException" ["java/lang/RuntimeException", "java/lang/Exception"]).filter goodWord)
def wsX4_offerAt_r1 : List Cond := [Cond.fieldLink RX4 10 "Meeplehouse" "hall" "LMeeplehouse$Hall;", Cond.fieldLink RX4 19 "Meeplehouse" "shelf" "LMeeplehouse$Shelf;", Cond.methodLink RX4 59 yX4_checkIndex, Cond.static yX4_checkIndex, Cond.initialized RX4, Cond.code yX4_checkIndex cX4_checkIndex 2 none, Cond.classLink RX4 192 "java/lang/IndexOutOfBoundsException", Cond.initialized "java/lang/IndexOutOfBoundsException", Cond.methodLink RX4 115 yX4_offeredTitles, Cond.instanceMethod yX4_offeredTitles, Cond.selects RX4 yX4_offeredTitles yX4_offeredTitles, Cond.code yX4_offeredTitles cX4_offeredTitles 4 (some .int), Cond.methodLink RX4 126 yX4_isOffered, Cond.instanceMethod yX4_isOffered, Cond.selects RX4 yX4_isOffered yX4_isOffered, Cond.code yX4_isOffered cX4_isOffered 3 (some .boolean), Cond.methodLink RX4 109 yX0_isSeated, Cond.instanceMethod yX0_isSeated, Cond.selects RX0 yX0_isSeated yX0_isSeated, Cond.initialized RX0, Cond.code yX0_isSeated cX0_isSeated 2 (some .boolean), Cond.fieldLink RX0 32 "Meeplehouse$Hall" "state" "LMeeplehouse$Row;", Cond.methodLink RX0 49 yX2_at, Cond.instanceMethod yX2_at]
def wsX4_offerAt_r2 : List Cond := [Cond.selects RX2 yX2_at yX2_at, Cond.initialized RX2, Cond.code yX2_at cX2_at 2 (some .int), Cond.fieldLink RX2 15 "Meeplehouse$Row" "cells" "[I", Cond.methodLink RX4 83 yX3_heldBy, Cond.instanceMethod yX3_heldBy, Cond.selects RX3 yX3_heldBy yX3_heldBy, Cond.initialized RX3, Cond.code yX3_heldBy cX3_heldBy 3 (some .int), Cond.fieldLink RX3 51 "Meeplehouse$Shelf" "copies" "I", Cond.fieldLink RX3 32 "Meeplehouse$Shelf" "holder" "LMeeplehouse$Row;", Cond.methodLink RX3 54 yX2_at, Cond.methodLink RX4 173 yX2_at, Cond.methodLink RX4 112 yX0_minutesLeft, Cond.instanceMethod yX0_minutesLeft, Cond.selects RX0 yX0_minutesLeft yX0_minutesLeft, Cond.code yX0_minutesLeft cX0_minutesLeft 2 (some .int), Cond.fieldLink RX0 29 "Meeplehouse$Hall" "end" "LMeeplehouse$Row;", Cond.fieldLink RX0 68 "Meeplehouse$Hall" "minute" "I", Cond.methodLink RX0 82 Lib.Math.max.name, Cond.static Lib.Math.max.name, Cond.initialized "java/lang/Math", Cond.code Lib.Math.max.name Lib.Math.max.code 2 (some .int), Cond.methodLink RX4 178 yX3_suits]
def wsX4_offerAt_r3 : List Cond := [Cond.instanceMethod yX3_suits, Cond.selects RX3 yX3_suits yX3_suits, Cond.code yX3_suits cX3_suits 4 (some .boolean), Cond.fieldLink RX3 14 "Meeplehouse$Shelf" "least" "LMeeplehouse$Row;", Cond.fieldLink RX3 20 "Meeplehouse$Shelf" "most" "LMeeplehouse$Row;", Cond.fieldLink RX3 23 "Meeplehouse$Shelf" "minutes" "LMeeplehouse$Row;", Cond.methodLink RX4 130 yX3_bestCopy, Cond.instanceMethod yX3_bestCopy, Cond.selects RX3 yX3_bestCopy yX3_bestCopy, Cond.code yX3_bestCopy cX3_bestCopy 6 (some .int), Cond.fieldLink RX3 29 "Meeplehouse$Shelf" "titleOf" "LMeeplehouse$Row;", Cond.methodLink RX3 69 yX3_countLenders, Cond.instanceMethod yX3_countLenders, Cond.selects RX3 yX3_countLenders yX3_countLenders, Cond.code yX3_countLenders cX3_countLenders 6 (some .int), Cond.methodLink RX3 81 Lib.Math.min.name, Cond.static Lib.Math.min.name, Cond.code Lib.Math.min.name Lib.Math.min.code 2 (some .int), Cond.methodLink RX3 72 yX3_place, Cond.instanceMethod yX3_place, Cond.selects RX3 yX3_place yX3_place, Cond.code yX3_place cX3_place 2 (some .int), Cond.fieldLink RX3 35 "Meeplehouse$Shelf" "borrower" "LMeeplehouse$Row;", Cond.methodLink RX3 75 yX3_lack]
def wsX4_offerAt_r4 : List Cond := [Cond.instanceMethod yX3_lack, Cond.selects RX3 yX3_lack yX3_lack, Cond.code yX3_lack cX3_lack 3 (some .int), Cond.fieldLink RX3 26 "Meeplehouse$Shelf" "full" "LMeeplehouse$Row;", Cond.fieldLink RX3 41 "Meeplehouse$Shelf" "has" "LMeeplehouse$Row;", Cond.methodLink RX3 78 yX3_mayLend, Cond.instanceMethod yX3_mayLend, Cond.selects RX3 yX3_mayLend yX3_mayLend, Cond.code yX3_mayLend cX3_mayLend 3 (some .boolean), Cond.methodLink RX3 58 yX3_count, Cond.instanceMethod yX3_count, Cond.selects RX3 yX3_count yX3_count, Cond.code yX3_count cX3_count 3 (some .int), Cond.methodLink RX3 86 yJ6_bitCount_0f7a4, Cond.static yJ6_bitCount_0f7a4, Cond.initialized RJ6, Cond.code yJ6_bitCount_0f7a4 cJ6_bitCount_0f7a4 1 (some .int), Cond.constant RJ6 265 (1431655765), Cond.constant RJ6 266 (858993459), Cond.constant RJ6 267 (252645135), Cond.methodLink RX4 118 yJ6_bitCount_0f7a4, Cond.methodLink RX4 123 yX3_titleInPlace, Cond.instanceMethod yX3_titleInPlace, Cond.selects RX3 yX3_titleInPlace yX3_titleInPlace]
def wsX4_offerAt_r5 : List Cond := [Cond.code yX3_titleInPlace cX3_titleInPlace 4 (some .int), Cond.fieldLink RX3 44 "Meeplehouse$Shelf" "titles" "I", Cond.static yX4_contains, Cond.code yX4_contains cX4_contains 2 (some .boolean), Cond.methodLink RX3 66 yX3_countAhead, Cond.instanceMethod yX3_countAhead, Cond.selects RX3 yX3_countAhead yX3_countAhead, Cond.code yX3_countAhead cX3_countAhead 6 (some .int)]
def wsX4_offerAt : List Cond := .code yX4_offerAt cX4_offerAt 4 (some .int) :: ((wsX4_offerAt_r1 ++ (wsX4_offerAt_r2 ++ (wsX4_offerAt_r3 ++ (wsX4_offerAt_r4 ++ wsX4_offerAt_r5)))) ++ wsX40 ++ wsX00 ++ wsX30 ++ wsX20 ++ (vx_atS RX4 196 "java/lang/IndexOutOfBoundsException" ["java/lang/RuntimeException", "java/lang/Exception"]).filter goodWord)
def wsX4_serve_r1 : List Cond := [Cond.fieldLink RX4 10 "Meeplehouse" "hall" "LMeeplehouse$Hall;", Cond.fieldLink RX4 19 "Meeplehouse" "shelf" "LMeeplehouse$Shelf;", Cond.methodLink RX4 59 yX4_checkIndex, Cond.static yX4_checkIndex, Cond.initialized RX4, Cond.code yX4_checkIndex cX4_checkIndex 2 none, Cond.classLink RX4 192 "java/lang/IndexOutOfBoundsException", Cond.initialized "java/lang/IndexOutOfBoundsException", Cond.methodLink RX4 126 yX4_isOffered, Cond.instanceMethod yX4_isOffered, Cond.selects RX4 yX4_isOffered yX4_isOffered, Cond.code yX4_isOffered cX4_isOffered 3 (some .boolean), Cond.methodLink RX4 109 yX0_isSeated, Cond.instanceMethod yX0_isSeated, Cond.selects RX0 yX0_isSeated yX0_isSeated, Cond.initialized RX0, Cond.code yX0_isSeated cX0_isSeated 2 (some .boolean), Cond.fieldLink RX0 32 "Meeplehouse$Hall" "state" "LMeeplehouse$Row;", Cond.methodLink RX0 49 yX2_at, Cond.instanceMethod yX2_at, Cond.selects RX2 yX2_at yX2_at, Cond.initialized RX2, Cond.code yX2_at cX2_at 2 (some .int), Cond.fieldLink RX2 15 "Meeplehouse$Row" "cells" "[I"]
def wsX4_serve_r2 : List Cond := [Cond.methodLink RX4 83 yX3_heldBy, Cond.instanceMethod yX3_heldBy, Cond.selects RX3 yX3_heldBy yX3_heldBy, Cond.initialized RX3, Cond.code yX3_heldBy cX3_heldBy 3 (some .int), Cond.fieldLink RX3 51 "Meeplehouse$Shelf" "copies" "I", Cond.fieldLink RX3 32 "Meeplehouse$Shelf" "holder" "LMeeplehouse$Row;", Cond.methodLink RX3 54 yX2_at, Cond.methodLink RX4 173 yX2_at, Cond.methodLink RX4 112 yX0_minutesLeft, Cond.instanceMethod yX0_minutesLeft, Cond.selects RX0 yX0_minutesLeft yX0_minutesLeft, Cond.code yX0_minutesLeft cX0_minutesLeft 2 (some .int), Cond.fieldLink RX0 29 "Meeplehouse$Hall" "end" "LMeeplehouse$Row;", Cond.fieldLink RX0 68 "Meeplehouse$Hall" "minute" "I", Cond.methodLink RX0 82 Lib.Math.max.name, Cond.static Lib.Math.max.name, Cond.initialized "java/lang/Math", Cond.code Lib.Math.max.name Lib.Math.max.code 2 (some .int), Cond.methodLink RX4 178 yX3_suits, Cond.instanceMethod yX3_suits, Cond.selects RX3 yX3_suits yX3_suits, Cond.code yX3_suits cX3_suits 4 (some .boolean), Cond.fieldLink RX3 14 "Meeplehouse$Shelf" "least" "LMeeplehouse$Row;"]
def wsX4_serve_r3 : List Cond := [Cond.fieldLink RX3 20 "Meeplehouse$Shelf" "most" "LMeeplehouse$Row;", Cond.fieldLink RX3 23 "Meeplehouse$Shelf" "minutes" "LMeeplehouse$Row;", Cond.methodLink RX4 130 yX3_bestCopy, Cond.instanceMethod yX3_bestCopy, Cond.selects RX3 yX3_bestCopy yX3_bestCopy, Cond.code yX3_bestCopy cX3_bestCopy 6 (some .int), Cond.fieldLink RX3 29 "Meeplehouse$Shelf" "titleOf" "LMeeplehouse$Row;", Cond.methodLink RX3 69 yX3_countLenders, Cond.instanceMethod yX3_countLenders, Cond.selects RX3 yX3_countLenders yX3_countLenders, Cond.code yX3_countLenders cX3_countLenders 6 (some .int), Cond.methodLink RX3 81 Lib.Math.min.name, Cond.static Lib.Math.min.name, Cond.code Lib.Math.min.name Lib.Math.min.code 2 (some .int), Cond.methodLink RX3 72 yX3_place, Cond.instanceMethod yX3_place, Cond.selects RX3 yX3_place yX3_place, Cond.code yX3_place cX3_place 2 (some .int), Cond.fieldLink RX3 35 "Meeplehouse$Shelf" "borrower" "LMeeplehouse$Row;", Cond.methodLink RX3 75 yX3_lack, Cond.instanceMethod yX3_lack, Cond.selects RX3 yX3_lack yX3_lack, Cond.code yX3_lack cX3_lack 3 (some .int), Cond.fieldLink RX3 26 "Meeplehouse$Shelf" "full" "LMeeplehouse$Row;"]
def wsX4_serve_r4 : List Cond := [Cond.fieldLink RX3 41 "Meeplehouse$Shelf" "has" "LMeeplehouse$Row;", Cond.methodLink RX3 78 yX3_mayLend, Cond.instanceMethod yX3_mayLend, Cond.selects RX3 yX3_mayLend yX3_mayLend, Cond.code yX3_mayLend cX3_mayLend 3 (some .boolean), Cond.methodLink RX3 58 yX3_count, Cond.instanceMethod yX3_count, Cond.selects RX3 yX3_count yX3_count, Cond.code yX3_count cX3_count 3 (some .int), Cond.methodLink RX3 86 yJ6_bitCount_0f7a4, Cond.static yJ6_bitCount_0f7a4, Cond.initialized RJ6, Cond.code yJ6_bitCount_0f7a4 cJ6_bitCount_0f7a4 1 (some .int), Cond.constant RJ6 265 (1431655765), Cond.constant RJ6 266 (858993459), Cond.constant RJ6 267 (252645135), Cond.methodLink RX4 38 yX4_checkState, Cond.static yX4_checkState, Cond.code yX4_checkState cX4_checkState 1 none, Cond.classLink RX4 204 "java/lang/IllegalStateException", Cond.initialized "java/lang/IllegalStateException", Cond.methodLink RX4 133 yX3_handOut, Cond.instanceMethod yX3_handOut, Cond.selects RX3 yX3_handOut yX3_handOut]
def wsX4_serve_r5 : List Cond := [Cond.code yX3_handOut cX3_handOut 6 none, Cond.methodLink RX3 91 yX3_lend, Cond.instanceMethod yX3_lend, Cond.selects RX3 yX3_lend yX3_lend, Cond.code yX3_lend cX3_lend 5 none, Cond.fieldLink RX3 38 "Meeplehouse$Shelf" "lent" "LMeeplehouse$Row;", Cond.methodLink RX3 48 yX2_put, Cond.instanceMethod yX2_put, Cond.selects RX2 yX2_put yX2_put, Cond.code yX2_put cX2_put 3 none, Cond.methodLink RX3 95 yX3_change, Cond.instanceMethod yX3_change, Cond.selects RX3 yX3_change yX3_change, Cond.code yX3_change cX3_change 4 none]
def wsX4_serve : List Cond := .code yX4_serve cX4_serve 4 (some .int) :: ((wsX4_serve_r1 ++ (wsX4_serve_r2 ++ (wsX4_serve_r3 ++ (wsX4_serve_r4 ++ wsX4_serve_r5)))) ++ wsX40 ++ wsX00 ++ wsX30 ++ wsX20 ++ (vx_atS RX4 196 "java/lang/IndexOutOfBoundsException" ["java/lang/RuntimeException", "java/lang/Exception"]).filter goodWord ++ (vx_atS RX4 208 "java/lang/IllegalStateException" ["java/lang/RuntimeException", "java/lang/Exception"]).filter goodWord)
def wsX4_giveBack_r1 : List Cond := [Cond.fieldLink RX4 10 "Meeplehouse" "hall" "LMeeplehouse$Hall;", Cond.fieldLink RX4 19 "Meeplehouse" "shelf" "LMeeplehouse$Shelf;", Cond.methodLink RX4 59 yX4_checkIndex, Cond.static yX4_checkIndex, Cond.initialized RX4, Cond.code yX4_checkIndex cX4_checkIndex 2 none, Cond.classLink RX4 192 "java/lang/IndexOutOfBoundsException", Cond.initialized "java/lang/IndexOutOfBoundsException", Cond.methodLink RX4 30 yX4_checkRange, Cond.static yX4_checkRange, Cond.code yX4_checkRange cX4_checkRange 3 none, Cond.classLink RX4 199 "java/lang/IllegalArgumentException", Cond.initialized "java/lang/IllegalArgumentException", Cond.methodLink RX4 83 yX3_heldBy, Cond.instanceMethod yX3_heldBy, Cond.selects RX3 yX3_heldBy yX3_heldBy, Cond.initialized RX3, Cond.code yX3_heldBy cX3_heldBy 3 (some .int), Cond.fieldLink RX3 51 "Meeplehouse$Shelf" "copies" "I", Cond.fieldLink RX3 32 "Meeplehouse$Shelf" "holder" "LMeeplehouse$Row;", Cond.methodLink RX3 54 yX2_at, Cond.instanceMethod yX2_at, Cond.selects RX2 yX2_at yX2_at, Cond.initialized RX2]
def wsX4_giveBack_r2 : List Cond := [Cond.code yX2_at cX2_at 2 (some .int), Cond.fieldLink RX2 15 "Meeplehouse$Row" "cells" "[I", Cond.methodLink RX4 136 yX3_count, Cond.instanceMethod yX3_count, Cond.selects RX3 yX3_count yX3_count, Cond.code yX3_count cX3_count 3 (some .int), Cond.fieldLink RX3 41 "Meeplehouse$Shelf" "has" "LMeeplehouse$Row;", Cond.methodLink RX4 38 yX4_checkState, Cond.static yX4_checkState, Cond.code yX4_checkState cX4_checkState 1 none, Cond.classLink RX4 204 "java/lang/IllegalStateException", Cond.initialized "java/lang/IllegalStateException", Cond.methodLink RX4 139 yX3_takeBack, Cond.instanceMethod yX3_takeBack, Cond.selects RX3 yX3_takeBack yX3_takeBack, Cond.code yX3_takeBack cX3_takeBack 6 (some .int), Cond.fieldLink RX3 35 "Meeplehouse$Shelf" "borrower" "LMeeplehouse$Row;", Cond.methodLink RX3 95 yX3_change, Cond.instanceMethod yX3_change, Cond.selects RX3 yX3_change yX3_change, Cond.code yX3_change cX3_change 4 none, Cond.methodLink RX3 58 yX3_count, Cond.methodLink RX3 48 yX2_put, Cond.instanceMethod yX2_put]
def wsX4_giveBack_r3 : List Cond := [Cond.selects RX2 yX2_put yX2_put, Cond.code yX2_put cX2_put 3 none, Cond.methodLink RX3 99 yX3_closeLoans, Cond.instanceMethod yX3_closeLoans, Cond.selects RX3 yX3_closeLoans yX3_closeLoans, Cond.code yX3_closeLoans cX3_closeLoans 7 (some .int), Cond.fieldLink RX3 38 "Meeplehouse$Shelf" "lent" "LMeeplehouse$Row;", Cond.methodLink RX3 81 Lib.Math.min.name, Cond.static Lib.Math.min.name, Cond.initialized "java/lang/Math", Cond.code Lib.Math.min.name Lib.Math.min.code 2 (some .int)]
def wsX4_giveBack : List Cond := .code yX4_giveBack cX4_giveBack 5 (some .int) :: ((wsX4_giveBack_r1 ++ (wsX4_giveBack_r2 ++ wsX4_giveBack_r3)) ++ wsX40 ++ wsX00 ++ wsX30 ++ wsX20 ++ (vx_atS RX4 196 "java/lang/IndexOutOfBoundsException" ["java/lang/RuntimeException", "java/lang/Exception"]).filter goodWord ++ (vx_atS RX4 203 "java/lang/IllegalArgumentException" ["java/lang/RuntimeException", "java/lang/Exception"]).filter goodWord ++ (vx_atS RX4 208 "java/lang/IllegalStateException" ["java/lang/RuntimeException", "java/lang/Exception"]).filter goodWord)
def wsX4_found_r1 : List Cond := [Cond.fieldLink RX4 19 "Meeplehouse" "shelf" "LMeeplehouse$Shelf;", Cond.methodLink RX4 59 yX4_checkIndex, Cond.static yX4_checkIndex, Cond.initialized RX4, Cond.code yX4_checkIndex cX4_checkIndex 2 none, Cond.classLink RX4 192 "java/lang/IndexOutOfBoundsException", Cond.initialized "java/lang/IndexOutOfBoundsException", Cond.methodLink RX4 30 yX4_checkRange, Cond.static yX4_checkRange, Cond.code yX4_checkRange cX4_checkRange 3 none, Cond.classLink RX4 199 "java/lang/IllegalArgumentException", Cond.initialized "java/lang/IllegalArgumentException", Cond.methodLink RX4 142 yX3_place, Cond.instanceMethod yX3_place, Cond.selects RX3 yX3_place yX3_place, Cond.initialized RX3, Cond.code yX3_place cX3_place 2 (some .int), Cond.fieldLink RX3 32 "Meeplehouse$Shelf" "holder" "LMeeplehouse$Row;", Cond.fieldLink RX3 35 "Meeplehouse$Shelf" "borrower" "LMeeplehouse$Row;", Cond.methodLink RX3 54 yX2_at, Cond.instanceMethod yX2_at, Cond.selects RX2 yX2_at yX2_at, Cond.initialized RX2, Cond.code yX2_at cX2_at 2 (some .int)]
def wsX4_found_r2 : List Cond := [Cond.fieldLink RX2 15 "Meeplehouse$Row" "cells" "[I", Cond.methodLink RX4 145 yX3_lack, Cond.instanceMethod yX3_lack, Cond.selects RX3 yX3_lack yX3_lack, Cond.code yX3_lack cX3_lack 3 (some .int), Cond.fieldLink RX3 26 "Meeplehouse$Shelf" "full" "LMeeplehouse$Row;", Cond.fieldLink RX3 29 "Meeplehouse$Shelf" "titleOf" "LMeeplehouse$Row;", Cond.fieldLink RX3 41 "Meeplehouse$Shelf" "has" "LMeeplehouse$Row;", Cond.methodLink RX4 38 yX4_checkState, Cond.static yX4_checkState, Cond.code yX4_checkState cX4_checkState 1 none, Cond.classLink RX4 204 "java/lang/IllegalStateException", Cond.initialized "java/lang/IllegalStateException", Cond.methodLink RX4 148 yX3_change, Cond.instanceMethod yX3_change, Cond.selects RX3 yX3_change yX3_change, Cond.code yX3_change cX3_change 4 none, Cond.methodLink RX3 58 yX3_count, Cond.instanceMethod yX3_count, Cond.selects RX3 yX3_count yX3_count, Cond.code yX3_count cX3_count 3 (some .int), Cond.methodLink RX3 48 yX2_put, Cond.instanceMethod yX2_put, Cond.selects RX2 yX2_put yX2_put]
def wsX4_found_r3 : List Cond := [Cond.code yX2_put cX2_put 3 none, Cond.methodLink RX4 136 yX3_count]
def wsX4_found : List Cond := .code yX4_found cX4_found 4 (some .int) :: ((wsX4_found_r1 ++ (wsX4_found_r2 ++ wsX4_found_r3)) ++ wsX40 ++ wsX30 ++ wsX20 ++ (vx_atS RX4 196 "java/lang/IndexOutOfBoundsException" ["java/lang/RuntimeException", "java/lang/Exception"]).filter goodWord ++ (vx_atS RX4 203 "java/lang/IllegalArgumentException" ["java/lang/RuntimeException", "java/lang/Exception"]).filter goodWord ++ (vx_atS RX4 208 "java/lang/IllegalStateException" ["java/lang/RuntimeException", "java/lang/Exception"]).filter goodWord)
def wsX4_pieces : List Cond := .code yX4_pieces cX4_pieces 3 (some .int) :: ([.fieldLink RX4 19 "Meeplehouse" "shelf" "LMeeplehouse$Shelf;", .methodLink RX4 59 yX4_checkIndex, .static yX4_checkIndex, .initialized RX4, .code yX4_checkIndex cX4_checkIndex 2 none, .classLink RX4 192 "java/lang/IndexOutOfBoundsException", .initialized "java/lang/IndexOutOfBoundsException", .methodLink RX4 136 yX3_count, .instanceMethod yX3_count, .selects RX3 yX3_count yX3_count, .initialized RX3, .code yX3_count cX3_count 3 (some .int), .fieldLink RX3 41 "Meeplehouse$Shelf" "has" "LMeeplehouse$Row;", .methodLink RX3 54 yX2_at, .instanceMethod yX2_at, .selects RX2 yX2_at yX2_at, .initialized RX2, .code yX2_at cX2_at 2 (some .int), .fieldLink RX2 15 "Meeplehouse$Row" "cells" "[I"] ++ wsX40 ++ wsX30 ++ wsX20 ++ (vx_atS RX4 196 "java/lang/IndexOutOfBoundsException" ["java/lang/RuntimeException", "java/lang/Exception"]).filter goodWord)
def wsX4_stateOf : List Cond := .code yX4_stateOf cX4_stateOf 2 (some .int) :: ([.fieldLink RX4 19 "Meeplehouse" "shelf" "LMeeplehouse$Shelf;", .methodLink RX4 59 yX4_checkIndex, .static yX4_checkIndex, .initialized RX4, .code yX4_checkIndex cX4_checkIndex 2 none, .classLink RX4 192 "java/lang/IndexOutOfBoundsException", .initialized "java/lang/IndexOutOfBoundsException", .methodLink RX4 142 yX3_place, .instanceMethod yX3_place, .selects RX3 yX3_place yX3_place, .initialized RX3, .code yX3_place cX3_place 2 (some .int), .fieldLink RX3 32 "Meeplehouse$Shelf" "holder" "LMeeplehouse$Row;", .fieldLink RX3 35 "Meeplehouse$Shelf" "borrower" "LMeeplehouse$Row;", .methodLink RX3 54 yX2_at, .instanceMethod yX2_at, .selects RX2 yX2_at yX2_at, .initialized RX2, .code yX2_at cX2_at 2 (some .int), .fieldLink RX2 15 "Meeplehouse$Row" "cells" "[I"] ++ wsX40 ++ wsX30 ++ wsX20 ++ (vx_atS RX4 196 "java/lang/IndexOutOfBoundsException" ["java/lang/RuntimeException", "java/lang/Exception"]).filter goodWord)
def wsX4_lenders_r1 : List Cond := [Cond.fieldLink RX4 19 "Meeplehouse" "shelf" "LMeeplehouse$Shelf;", Cond.methodLink RX4 59 yX4_checkIndex, Cond.static yX4_checkIndex, Cond.initialized RX4, Cond.code yX4_checkIndex cX4_checkIndex 2 none, Cond.classLink RX4 192 "java/lang/IndexOutOfBoundsException", Cond.initialized "java/lang/IndexOutOfBoundsException", Cond.methodLink RX4 151 yX3_countLenders, Cond.instanceMethod yX3_countLenders, Cond.selects RX3 yX3_countLenders yX3_countLenders, Cond.initialized RX3, Cond.code yX3_countLenders cX3_countLenders 6 (some .int), Cond.fieldLink RX3 51 "Meeplehouse$Shelf" "copies" "I", Cond.methodLink RX3 81 Lib.Math.min.name, Cond.static Lib.Math.min.name, Cond.initialized "java/lang/Math", Cond.code Lib.Math.min.name Lib.Math.min.code 2 (some .int), Cond.methodLink RX3 72 yX3_place, Cond.instanceMethod yX3_place, Cond.selects RX3 yX3_place yX3_place, Cond.code yX3_place cX3_place 2 (some .int), Cond.fieldLink RX3 32 "Meeplehouse$Shelf" "holder" "LMeeplehouse$Row;", Cond.fieldLink RX3 35 "Meeplehouse$Shelf" "borrower" "LMeeplehouse$Row;", Cond.methodLink RX3 54 yX2_at]
def wsX4_lenders_r2 : List Cond := [Cond.instanceMethod yX2_at, Cond.selects RX2 yX2_at yX2_at, Cond.initialized RX2, Cond.code yX2_at cX2_at 2 (some .int), Cond.fieldLink RX2 15 "Meeplehouse$Row" "cells" "[I", Cond.methodLink RX3 75 yX3_lack, Cond.instanceMethod yX3_lack, Cond.selects RX3 yX3_lack yX3_lack, Cond.code yX3_lack cX3_lack 3 (some .int), Cond.fieldLink RX3 26 "Meeplehouse$Shelf" "full" "LMeeplehouse$Row;", Cond.fieldLink RX3 29 "Meeplehouse$Shelf" "titleOf" "LMeeplehouse$Row;", Cond.fieldLink RX3 41 "Meeplehouse$Shelf" "has" "LMeeplehouse$Row;", Cond.methodLink RX3 78 yX3_mayLend, Cond.instanceMethod yX3_mayLend, Cond.selects RX3 yX3_mayLend yX3_mayLend, Cond.code yX3_mayLend cX3_mayLend 3 (some .boolean), Cond.methodLink RX3 58 yX3_count, Cond.instanceMethod yX3_count, Cond.selects RX3 yX3_count yX3_count, Cond.code yX3_count cX3_count 3 (some .int), Cond.methodLink RX3 86 yJ6_bitCount_0f7a4, Cond.static yJ6_bitCount_0f7a4, Cond.initialized RJ6, Cond.code yJ6_bitCount_0f7a4 cJ6_bitCount_0f7a4 1 (some .int)]
def wsX4_lenders_r3 : List Cond := [Cond.constant RJ6 265 (1431655765), Cond.constant RJ6 266 (858993459), Cond.constant RJ6 267 (252645135)]
def wsX4_lenders : List Cond := .code yX4_lenders cX4_lenders 2 (some .int) :: ((wsX4_lenders_r1 ++ (wsX4_lenders_r2 ++ wsX4_lenders_r3)) ++ wsX40 ++ wsX30 ++ wsX20 ++ (vx_atS RX4 196 "java/lang/IndexOutOfBoundsException" ["java/lang/RuntimeException", "java/lang/Exception"]).filter goodWord)
def wsX4_copyOf : List Cond := .code yX4_copyOf cX4_copyOf 2 (some .int) :: ([.fieldLink RX4 10 "Meeplehouse" "hall" "LMeeplehouse$Hall;", .fieldLink RX4 19 "Meeplehouse" "shelf" "LMeeplehouse$Shelf;", .methodLink RX4 59 yX4_checkIndex, .static yX4_checkIndex, .initialized RX4, .code yX4_checkIndex cX4_checkIndex 2 none, .classLink RX4 192 "java/lang/IndexOutOfBoundsException", .initialized "java/lang/IndexOutOfBoundsException", .methodLink RX4 83 yX3_heldBy, .instanceMethod yX3_heldBy, .selects RX3 yX3_heldBy yX3_heldBy, .initialized RX3, .code yX3_heldBy cX3_heldBy 3 (some .int), .fieldLink RX3 51 "Meeplehouse$Shelf" "copies" "I", .fieldLink RX3 32 "Meeplehouse$Shelf" "holder" "LMeeplehouse$Row;", .methodLink RX3 54 yX2_at, .instanceMethod yX2_at, .selects RX2 yX2_at yX2_at, .initialized RX2, .code yX2_at cX2_at 2 (some .int), .fieldLink RX2 15 "Meeplehouse$Row" "cells" "[I"] ++ wsX40 ++ wsX00 ++ wsX30 ++ wsX20 ++ (vx_atS RX4 196 "java/lang/IndexOutOfBoundsException" ["java/lang/RuntimeException", "java/lang/Exception"]).filter goodWord)
def wsX4_playedBy : List Cond := .code yX4_playedBy cX4_playedBy 2 (some .int) :: ([.fieldLink RX4 19 "Meeplehouse" "shelf" "LMeeplehouse$Shelf;", .methodLink RX4 83 yX3_heldBy, .instanceMethod yX3_heldBy, .selects RX3 yX3_heldBy yX3_heldBy, .initialized RX3, .code yX3_heldBy cX3_heldBy 3 (some .int), .fieldLink RX3 51 "Meeplehouse$Shelf" "copies" "I", .fieldLink RX3 32 "Meeplehouse$Shelf" "holder" "LMeeplehouse$Row;", .methodLink RX3 54 yX2_at, .instanceMethod yX2_at, .selects RX2 yX2_at yX2_at, .initialized RX2, .code yX2_at cX2_at 2 (some .int), .fieldLink RX2 15 "Meeplehouse$Row" "cells" "[I", .methodLink RX4 173 yX2_at] ++ wsX40 ++ wsX30 ++ wsX20)
def wsX4_holdingFor_r1 : List Cond := [Cond.fieldLink RX4 19 "Meeplehouse" "shelf" "LMeeplehouse$Shelf;", Cond.fieldLink RX4 26 "Meeplehouse" "referee" "LMeeplehouse$Referee;", Cond.fieldLink RX4 10 "Meeplehouse" "hall" "LMeeplehouse$Hall;", Cond.methodLink RX4 83 yX3_heldBy, Cond.instanceMethod yX3_heldBy, Cond.selects RX3 yX3_heldBy yX3_heldBy, Cond.initialized RX3, Cond.code yX3_heldBy cX3_heldBy 3 (some .int), Cond.fieldLink RX3 51 "Meeplehouse$Shelf" "copies" "I", Cond.fieldLink RX3 32 "Meeplehouse$Shelf" "holder" "LMeeplehouse$Row;", Cond.methodLink RX3 54 yX2_at, Cond.instanceMethod yX2_at, Cond.selects RX2 yX2_at yX2_at, Cond.initialized RX2, Cond.code yX2_at cX2_at 2 (some .int), Cond.fieldLink RX2 15 "Meeplehouse$Row" "cells" "[I", Cond.methodLink RX4 185 yX3_piecesLentTo, Cond.instanceMethod yX3_piecesLentTo, Cond.selects RX3 yX3_piecesLentTo yX3_piecesLentTo, Cond.code yX3_piecesLentTo cX3_piecesLentTo 5 (some .int), Cond.fieldLink RX3 35 "Meeplehouse$Shelf" "borrower" "LMeeplehouse$Row;", Cond.fieldLink RX3 38 "Meeplehouse$Shelf" "lent" "LMeeplehouse$Row;", Cond.methodLink RX4 154 yX4_playedBy, Cond.instanceMethod yX4_playedBy]
def wsX4_holdingFor_r2 : List Cond := [Cond.selects RX4 yX4_playedBy yX4_playedBy, Cond.initialized RX4, Cond.code yX4_playedBy cX4_playedBy 2 (some .int), Cond.methodLink RX4 173 yX2_at, Cond.methodLink RX4 112 yX0_minutesLeft, Cond.instanceMethod yX0_minutesLeft, Cond.selects RX0 yX0_minutesLeft yX0_minutesLeft, Cond.initialized RX0, Cond.code yX0_minutesLeft cX0_minutesLeft 2 (some .int), Cond.fieldLink RX0 29 "Meeplehouse$Hall" "end" "LMeeplehouse$Row;", Cond.fieldLink RX0 68 "Meeplehouse$Hall" "minute" "I", Cond.methodLink RX0 82 Lib.Math.max.name, Cond.static Lib.Math.max.name, Cond.initialized "java/lang/Math", Cond.code Lib.Math.max.name Lib.Math.max.code 2 (some .int), Cond.methodLink RX0 49 yX2_at, Cond.methodLink RX4 188 yX1_holding, Cond.instanceMethod yX1_holding, Cond.selects RX1 yX1_holding yX1_holding, Cond.initialized RX1, Cond.code yX1_holding cX1_holding 8 (some .int), Cond.fieldLink RX1 14 "Meeplehouse$Referee" "rules" "LMeeplehouse$Row;", Cond.fieldLink RX1 23 "Meeplehouse$Referee" "tests" "LMeeplehouse$Row;", Cond.fieldLink RX1 26 "Meeplehouse$Referee" "values" "LMeeplehouse$Row;"]
def wsX4_holdingFor_r3 : List Cond := [Cond.methodLink RX1 32 yX2_at, Cond.methodLink RX1 39 yX1_holds, Cond.static yX1_holds, Cond.code yX1_holds cX1_holds 5 (some .boolean)]
def wsX4_holdingFor : List Cond := .code yX4_holdingFor cX4_holdingFor 3 (some .int) :: ((wsX4_holdingFor_r1 ++ (wsX4_holdingFor_r2 ++ wsX4_holdingFor_r3)) ++ wsX40 ++ wsX00 ++ wsX30 ++ wsX20 ++ wsX10)
def wsX4_ruling_r1 : List Cond := [Cond.fieldLink RX4 10 "Meeplehouse" "hall" "LMeeplehouse$Hall;", Cond.fieldLink RX4 19 "Meeplehouse" "shelf" "LMeeplehouse$Shelf;", Cond.fieldLink RX4 26 "Meeplehouse" "referee" "LMeeplehouse$Referee;", Cond.methodLink RX4 59 yX4_checkIndex, Cond.static yX4_checkIndex, Cond.initialized RX4, Cond.code yX4_checkIndex cX4_checkIndex 2 none, Cond.classLink RX4 192 "java/lang/IndexOutOfBoundsException", Cond.initialized "java/lang/IndexOutOfBoundsException", Cond.methodLink RX4 83 yX3_heldBy, Cond.instanceMethod yX3_heldBy, Cond.selects RX3 yX3_heldBy yX3_heldBy, Cond.initialized RX3, Cond.code yX3_heldBy cX3_heldBy 3 (some .int), Cond.fieldLink RX3 51 "Meeplehouse$Shelf" "copies" "I", Cond.fieldLink RX3 32 "Meeplehouse$Shelf" "holder" "LMeeplehouse$Row;", Cond.methodLink RX3 54 yX2_at, Cond.instanceMethod yX2_at, Cond.selects RX2 yX2_at yX2_at, Cond.initialized RX2, Cond.code yX2_at cX2_at 2 (some .int), Cond.fieldLink RX2 15 "Meeplehouse$Row" "cells" "[I", Cond.methodLink RX4 38 yX4_checkState, Cond.static yX4_checkState]
def wsX4_ruling_r2 : List Cond := [Cond.code yX4_checkState cX4_checkState 1 none, Cond.classLink RX4 204 "java/lang/IllegalStateException", Cond.initialized "java/lang/IllegalStateException", Cond.methodLink RX4 154 yX4_playedBy, Cond.instanceMethod yX4_playedBy, Cond.selects RX4 yX4_playedBy yX4_playedBy, Cond.code yX4_playedBy cX4_playedBy 2 (some .int), Cond.methodLink RX4 173 yX2_at, Cond.methodLink RX4 157 yX4_holdingFor, Cond.instanceMethod yX4_holdingFor, Cond.selects RX4 yX4_holdingFor yX4_holdingFor, Cond.code yX4_holdingFor cX4_holdingFor 3 (some .int), Cond.methodLink RX4 185 yX3_piecesLentTo, Cond.instanceMethod yX3_piecesLentTo, Cond.selects RX3 yX3_piecesLentTo yX3_piecesLentTo, Cond.code yX3_piecesLentTo cX3_piecesLentTo 5 (some .int), Cond.fieldLink RX3 35 "Meeplehouse$Shelf" "borrower" "LMeeplehouse$Row;", Cond.fieldLink RX3 38 "Meeplehouse$Shelf" "lent" "LMeeplehouse$Row;", Cond.methodLink RX4 112 yX0_minutesLeft, Cond.instanceMethod yX0_minutesLeft, Cond.selects RX0 yX0_minutesLeft yX0_minutesLeft, Cond.initialized RX0, Cond.code yX0_minutesLeft cX0_minutesLeft 2 (some .int), Cond.fieldLink RX0 29 "Meeplehouse$Hall" "end" "LMeeplehouse$Row;"]
def wsX4_ruling_r3 : List Cond := [Cond.fieldLink RX0 68 "Meeplehouse$Hall" "minute" "I", Cond.methodLink RX0 82 Lib.Math.max.name, Cond.static Lib.Math.max.name, Cond.initialized "java/lang/Math", Cond.code Lib.Math.max.name Lib.Math.max.code 2 (some .int), Cond.methodLink RX0 49 yX2_at, Cond.methodLink RX4 188 yX1_holding, Cond.instanceMethod yX1_holding, Cond.selects RX1 yX1_holding yX1_holding, Cond.initialized RX1, Cond.code yX1_holding cX1_holding 8 (some .int), Cond.fieldLink RX1 14 "Meeplehouse$Referee" "rules" "LMeeplehouse$Row;", Cond.fieldLink RX1 23 "Meeplehouse$Referee" "tests" "LMeeplehouse$Row;", Cond.fieldLink RX1 26 "Meeplehouse$Referee" "values" "LMeeplehouse$Row;", Cond.methodLink RX1 32 yX2_at, Cond.methodLink RX1 39 yX1_holds, Cond.static yX1_holds, Cond.code yX1_holds cX1_holds 5 (some .boolean), Cond.methodLink RX4 160 yX1_rulingGoingDown, Cond.instanceMethod yX1_rulingGoingDown, Cond.selects RX1 yX1_rulingGoingDown yX1_rulingGoingDown, Cond.code yX1_rulingGoingDown cX1_rulingGoingDown 6 (some .int), Cond.fieldLink RX1 29 "Meeplehouse$Referee" "rulings" "LMeeplehouse$Row;", Cond.methodLink RX1 43 yX1_firstHolding]
def wsX4_ruling_r4 : List Cond := [Cond.instanceMethod yX1_firstHolding, Cond.selects RX1 yX1_firstHolding yX1_firstHolding, Cond.code yX1_firstHolding cX1_firstHolding 5 (some .int), Cond.methodLink RX1 47 yX1_parentOf, Cond.instanceMethod yX1_parentOf, Cond.selects RX1 yX1_parentOf yX1_parentOf, Cond.code yX1_parentOf cX1_parentOf 3 (some .int), Cond.fieldLink RX1 20 "Meeplehouse$Referee" "parents" "LMeeplehouse$Row;", Cond.static yX4_contains, Cond.code yX4_contains cX4_contains 2 (some .boolean)]
def wsX4_ruling : List Cond := .code yX4_ruling cX4_ruling 2 (some .int) :: ((wsX4_ruling_r1 ++ (wsX4_ruling_r2 ++ (wsX4_ruling_r3 ++ wsX4_ruling_r4))) ++ wsX40 ++ wsX00 ++ wsX30 ++ wsX20 ++ wsX10 ++ (vx_atS RX4 196 "java/lang/IndexOutOfBoundsException" ["java/lang/RuntimeException", "java/lang/Exception"]).filter goodWord ++ (vx_atS RX4 208 "java/lang/IllegalStateException" ["java/lang/RuntimeException", "java/lang/Exception"]).filter goodWord)
def wsX4_rulingFromBelow_r1 : List Cond := [Cond.fieldLink RX4 10 "Meeplehouse" "hall" "LMeeplehouse$Hall;", Cond.fieldLink RX4 19 "Meeplehouse" "shelf" "LMeeplehouse$Shelf;", Cond.fieldLink RX4 26 "Meeplehouse" "referee" "LMeeplehouse$Referee;", Cond.methodLink RX4 59 yX4_checkIndex, Cond.static yX4_checkIndex, Cond.initialized RX4, Cond.code yX4_checkIndex cX4_checkIndex 2 none, Cond.classLink RX4 192 "java/lang/IndexOutOfBoundsException", Cond.initialized "java/lang/IndexOutOfBoundsException", Cond.methodLink RX4 83 yX3_heldBy, Cond.instanceMethod yX3_heldBy, Cond.selects RX3 yX3_heldBy yX3_heldBy, Cond.initialized RX3, Cond.code yX3_heldBy cX3_heldBy 3 (some .int), Cond.fieldLink RX3 51 "Meeplehouse$Shelf" "copies" "I", Cond.fieldLink RX3 32 "Meeplehouse$Shelf" "holder" "LMeeplehouse$Row;", Cond.methodLink RX3 54 yX2_at, Cond.instanceMethod yX2_at, Cond.selects RX2 yX2_at yX2_at, Cond.initialized RX2, Cond.code yX2_at cX2_at 2 (some .int), Cond.fieldLink RX2 15 "Meeplehouse$Row" "cells" "[I", Cond.methodLink RX4 38 yX4_checkState, Cond.static yX4_checkState]
def wsX4_rulingFromBelow_r2 : List Cond := [Cond.code yX4_checkState cX4_checkState 1 none, Cond.classLink RX4 204 "java/lang/IllegalStateException", Cond.initialized "java/lang/IllegalStateException", Cond.methodLink RX4 154 yX4_playedBy, Cond.instanceMethod yX4_playedBy, Cond.selects RX4 yX4_playedBy yX4_playedBy, Cond.code yX4_playedBy cX4_playedBy 2 (some .int), Cond.methodLink RX4 173 yX2_at, Cond.methodLink RX4 157 yX4_holdingFor, Cond.instanceMethod yX4_holdingFor, Cond.selects RX4 yX4_holdingFor yX4_holdingFor, Cond.code yX4_holdingFor cX4_holdingFor 3 (some .int), Cond.methodLink RX4 185 yX3_piecesLentTo, Cond.instanceMethod yX3_piecesLentTo, Cond.selects RX3 yX3_piecesLentTo yX3_piecesLentTo, Cond.code yX3_piecesLentTo cX3_piecesLentTo 5 (some .int), Cond.fieldLink RX3 35 "Meeplehouse$Shelf" "borrower" "LMeeplehouse$Row;", Cond.fieldLink RX3 38 "Meeplehouse$Shelf" "lent" "LMeeplehouse$Row;", Cond.methodLink RX4 112 yX0_minutesLeft, Cond.instanceMethod yX0_minutesLeft, Cond.selects RX0 yX0_minutesLeft yX0_minutesLeft, Cond.initialized RX0, Cond.code yX0_minutesLeft cX0_minutesLeft 2 (some .int), Cond.fieldLink RX0 29 "Meeplehouse$Hall" "end" "LMeeplehouse$Row;"]
def wsX4_rulingFromBelow_r3 : List Cond := [Cond.fieldLink RX0 68 "Meeplehouse$Hall" "minute" "I", Cond.methodLink RX0 82 Lib.Math.max.name, Cond.static Lib.Math.max.name, Cond.initialized "java/lang/Math", Cond.code Lib.Math.max.name Lib.Math.max.code 2 (some .int), Cond.methodLink RX0 49 yX2_at, Cond.methodLink RX4 188 yX1_holding, Cond.instanceMethod yX1_holding, Cond.selects RX1 yX1_holding yX1_holding, Cond.initialized RX1, Cond.code yX1_holding cX1_holding 8 (some .int), Cond.fieldLink RX1 14 "Meeplehouse$Referee" "rules" "LMeeplehouse$Row;", Cond.fieldLink RX1 23 "Meeplehouse$Referee" "tests" "LMeeplehouse$Row;", Cond.fieldLink RX1 26 "Meeplehouse$Referee" "values" "LMeeplehouse$Row;", Cond.methodLink RX1 32 yX2_at, Cond.methodLink RX1 39 yX1_holds, Cond.static yX1_holds, Cond.code yX1_holds cX1_holds 5 (some .boolean), Cond.methodLink RX4 163 yX1_rulingGoingUp, Cond.instanceMethod yX1_rulingGoingUp, Cond.selects RX1 yX1_rulingGoingUp yX1_rulingGoingUp, Cond.code yX1_rulingGoingUp cX1_rulingGoingUp 4 (some .int), Cond.fieldLink RX1 29 "Meeplehouse$Referee" "rulings" "LMeeplehouse$Row;", Cond.methodLink RX1 55 yX1_decides]
def wsX4_rulingFromBelow_r4 : List Cond := [Cond.instanceMethod yX1_decides, Cond.selects RX1 yX1_decides yX1_decides, Cond.code yX1_decides cX1_decides 7 (some .boolean), Cond.methodLink RX1 59 yX1_holdsAmong, Cond.instanceMethod yX1_holdsAmong, Cond.selects RX1 yX1_holdsAmong yX1_holdsAmong, Cond.code yX1_holdsAmong cX1_holdsAmong 6 (some .boolean), Cond.methodLink RX1 47 yX1_parentOf, Cond.instanceMethod yX1_parentOf, Cond.selects RX1 yX1_parentOf yX1_parentOf, Cond.code yX1_parentOf cX1_parentOf 3 (some .int), Cond.fieldLink RX1 20 "Meeplehouse$Referee" "parents" "LMeeplehouse$Row;", Cond.static yX4_contains, Cond.code yX4_contains cX4_contains 2 (some .boolean)]
def wsX4_rulingFromBelow : List Cond := .code yX4_rulingFromBelow cX4_rulingFromBelow 2 (some .int) :: ((wsX4_rulingFromBelow_r1 ++ (wsX4_rulingFromBelow_r2 ++ (wsX4_rulingFromBelow_r3 ++ wsX4_rulingFromBelow_r4))) ++ wsX40 ++ wsX00 ++ wsX30 ++ wsX20 ++ wsX10 ++ (vx_atS RX4 196 "java/lang/IndexOutOfBoundsException" ["java/lang/RuntimeException", "java/lang/Exception"]).filter goodWord ++ (vx_atS RX4 208 "java/lang/IllegalStateException" ["java/lang/RuntimeException", "java/lang/Exception"]).filter goodWord)
def wsX4_depth_r1 : List Cond := [Cond.fieldLink RX4 19 "Meeplehouse" "shelf" "LMeeplehouse$Shelf;", Cond.fieldLink RX4 26 "Meeplehouse" "referee" "LMeeplehouse$Referee;", Cond.methodLink RX4 59 yX4_checkIndex, Cond.static yX4_checkIndex, Cond.initialized RX4, Cond.code yX4_checkIndex cX4_checkIndex 2 none, Cond.classLink RX4 192 "java/lang/IndexOutOfBoundsException", Cond.initialized "java/lang/IndexOutOfBoundsException", Cond.methodLink RX4 166 yX1_deepest, Cond.instanceMethod yX1_deepest, Cond.selects RX1 yX1_deepest yX1_deepest, Cond.initialized RX1, Cond.code yX1_deepest cX1_deepest 4 (some .int), Cond.fieldLink RX1 14 "Meeplehouse$Referee" "rules" "LMeeplehouse$Row;", Cond.methodLink RX1 66 Lib.Math.max.name, Cond.static Lib.Math.max.name, Cond.initialized "java/lang/Math", Cond.code Lib.Math.max.name Lib.Math.max.code 2 (some .int), Cond.methodLink RX1 32 yX2_at, Cond.instanceMethod yX2_at, Cond.selects RX2 yX2_at yX2_at, Cond.initialized RX2, Cond.code yX2_at cX2_at 2 (some .int), Cond.fieldLink RX2 15 "Meeplehouse$Row" "cells" "[I"]
def wsX4_depth_r2 : List Cond := [Cond.methodLink RX1 63 yX1_levelOf, Cond.instanceMethod yX1_levelOf, Cond.selects RX1 yX1_levelOf yX1_levelOf, Cond.code yX1_levelOf cX1_levelOf 5 (some .int), Cond.methodLink RX1 47 yX1_parentOf, Cond.instanceMethod yX1_parentOf, Cond.selects RX1 yX1_parentOf yX1_parentOf, Cond.code yX1_parentOf cX1_parentOf 3 (some .int), Cond.fieldLink RX1 20 "Meeplehouse$Referee" "parents" "LMeeplehouse$Row;"]
def wsX4_depth : List Cond := .code yX4_depth cX4_depth 2 (some .int) :: ((wsX4_depth_r1 ++ wsX4_depth_r2) ++ wsX40 ++ wsX30 ++ wsX10 ++ wsX20 ++ (vx_atS RX4 196 "java/lang/IndexOutOfBoundsException" ["java/lang/RuntimeException", "java/lang/Exception"]).filter goodWord)
def wsX5_init_r1 : List Cond := [Cond.methodLink RX5 1 objectInit, Cond.instanceMethod objectInit, Cond.code objectInit ⟨#[0xb1]⟩ 1 none, Cond.arrayClass .int, Cond.fieldLink RX5 7 "MeeplehouseModel" "seats" "[I", Cond.fieldLink RX5 13 "MeeplehouseModel" "at" "[I", Cond.fieldLink RX5 16 "MeeplehouseModel" "players" "[I", Cond.fieldLink RX5 19 "MeeplehouseModel" "stay" "[I", Cond.fieldLink RX5 22 "MeeplehouseModel" "state" "[I", Cond.fieldLink RX5 25 "MeeplehouseModel" "since" "[I", Cond.fieldLink RX5 28 "MeeplehouseModel" "copy" "[I", Cond.fieldLink RX5 31 "MeeplehouseModel" "least" "[I", Cond.fieldLink RX5 34 "MeeplehouseModel" "most" "[I", Cond.fieldLink RX5 37 "MeeplehouseModel" "minutes" "[I", Cond.fieldLink RX5 40 "MeeplehouseModel" "whole" "[I", Cond.fieldLink RX5 43 "MeeplehouseModel" "title" "[I", Cond.fieldLink RX5 46 "MeeplehouseModel" "where" "[I", Cond.fieldLink RX5 49 "MeeplehouseModel" "pieces" "[I", Cond.fieldLink RX5 52 "MeeplehouseModel" "borrower" "[I", Cond.fieldLink RX5 55 "MeeplehouseModel" "kindLent" "[I", Cond.fieldLink RX5 58 "MeeplehouseModel" "lender" "[I", Cond.fieldLink RX5 61 "MeeplehouseModel" "lent" "[I", Cond.fieldLink RX5 64 "MeeplehouseModel" "parent" "[I", Cond.fieldLink RX5 67 "MeeplehouseModel" "test" "[I"]
def wsX5_init_r2 : List Cond := [Cond.fieldLink RX5 70 "MeeplehouseModel" "value" "[I", Cond.fieldLink RX5 73 "MeeplehouseModel" "ruling" "[I", Cond.fieldLink RX5 76 "MeeplehouseModel" "rules" "[I"]
def wsX5_init : List Cond := .code yX5_init cX5_init 1 none :: ((wsX5_init_r1 ++ wsX5_init_r2) ++ wsX50)
def wsX5_thrown : List Cond := .code yX5_thrown cX5_thrown 1 (some .int) :: ([.fieldLink RX5 79 "MeeplehouseModel" "thrown" "I"] ++ wsX50)
def wsX5_isFine : List Cond := .code yX5_isFine cX5_isFine 2 (some .boolean) :: ([.fieldLink RX5 79 "MeeplehouseModel" "thrown" "I"] ++ wsX50)
def wsX5_isIn : List Cond := .code yX5_isIn cX5_isIn 3 (some .boolean) :: ([])
def wsX5_isTitle : List Cond := .code yX5_isTitle cX5_isTitle 2 (some .boolean) :: ([.fieldLink RX5 83 "MeeplehouseModel" "titles" "I", .methodLink RX5 86 yX5_isIn, .static yX5_isIn, .initialized RX5, .code yX5_isIn cX5_isIn 3 (some .boolean)] ++ wsX50)
def wsX5_isCopy : List Cond := .code yX5_isCopy cX5_isCopy 2 (some .boolean) :: ([.fieldLink RX5 90 "MeeplehouseModel" "copies" "I", .methodLink RX5 86 yX5_isIn, .static yX5_isIn, .initialized RX5, .code yX5_isIn cX5_isIn 3 (some .boolean)] ++ wsX50)
def wsX5_isKind : List Cond := .code yX5_isKind cX5_isKind 1 (some .boolean) :: ([.methodLink RX5 86 yX5_isIn, .static yX5_isIn, .initialized RX5, .code yX5_isIn cX5_isIn 3 (some .boolean)])
def wsX5_isGroup : List Cond := .code yX5_isGroup cX5_isGroup 2 (some .boolean) :: ([.fieldLink RX5 93 "MeeplehouseModel" "groups" "I", .methodLink RX5 86 yX5_isIn, .static yX5_isIn, .initialized RX5, .code yX5_isIn cX5_isIn 3 (some .boolean)] ++ wsX50)
def wsX5_pass : List Cond := .code yX5_pass cX5_pass 2 (some .int) :: ([.fieldLink RX5 96 "MeeplehouseModel" "now" "I", .methodLink RX5 86 yX5_isIn, .static yX5_isIn, .initialized RX5, .code yX5_isIn cX5_isIn 3 (some .boolean), .methodLink RX5 99 yX5_isFine, .instanceMethod yX5_isFine, .selects RX5 yX5_isFine yX5_isFine, .code yX5_isFine cX5_isFine 2 (some .boolean), .fieldLink RX5 79 "MeeplehouseModel" "thrown" "I"] ++ wsX50)
def wsX5_now : List Cond := .code yX5_now cX5_now 1 (some .int) :: ([.fieldLink RX5 79 "MeeplehouseModel" "thrown" "I", .fieldLink RX5 96 "MeeplehouseModel" "now" "I"] ++ wsX50)
def wsX5_addTable : List Cond := .code yX5_addTable cX5_addTable 2 (some .int) :: ([.fieldLink RX5 103 "MeeplehouseModel" "tables" "I", .fieldLink RX5 7 "MeeplehouseModel" "seats" "[I", .fieldLink RX5 13 "MeeplehouseModel" "at" "[I", .methodLink RX5 86 yX5_isIn, .static yX5_isIn, .initialized RX5, .code yX5_isIn cX5_isIn 3 (some .boolean), .methodLink RX5 99 yX5_isFine, .instanceMethod yX5_isFine, .selects RX5 yX5_isFine yX5_isFine, .code yX5_isFine cX5_isFine 2 (some .boolean), .fieldLink RX5 79 "MeeplehouseModel" "thrown" "I"] ++ wsX50)
def wsX5_arePieces : List Cond := .code yX5_arePieces cX5_arePieces 1 (some .boolean) :: ([.methodLink RX5 86 yX5_isIn, .static yX5_isIn, .initialized RX5, .code yX5_isIn cX5_isIn 3 (some .boolean)])
def wsX5_addTitle : List Cond := .code yX5_addTitle cX5_addTitle 9 (some .int) :: ([.fieldLink RX5 83 "MeeplehouseModel" "titles" "I", .fieldLink RX5 31 "MeeplehouseModel" "least" "[I", .fieldLink RX5 34 "MeeplehouseModel" "most" "[I", .fieldLink RX5 37 "MeeplehouseModel" "minutes" "[I", .fieldLink RX5 40 "MeeplehouseModel" "whole" "[I", .methodLink RX5 86 yX5_isIn, .static yX5_isIn, .initialized RX5, .code yX5_isIn cX5_isIn 3 (some .boolean), .methodLink RX5 106 yX5_arePieces, .static yX5_arePieces, .code yX5_arePieces cX5_arePieces 1 (some .boolean), .methodLink RX5 99 yX5_isFine, .instanceMethod yX5_isFine, .selects RX5 yX5_isFine yX5_isFine, .code yX5_isFine cX5_isFine 2 (some .boolean), .fieldLink RX5 79 "MeeplehouseModel" "thrown" "I"] ++ wsX50)
def wsX5_addCopy : List Cond := .code yX5_addCopy cX5_addCopy 3 (some .int) :: ([.fieldLink RX5 90 "MeeplehouseModel" "copies" "I", .fieldLink RX5 43 "MeeplehouseModel" "title" "[I", .fieldLink RX5 46 "MeeplehouseModel" "where" "[I", .fieldLink RX5 49 "MeeplehouseModel" "pieces" "[I", .fieldLink RX5 40 "MeeplehouseModel" "whole" "[I", .methodLink RX5 109 yX5_isTitle, .instanceMethod yX5_isTitle, .selects RX5 yX5_isTitle yX5_isTitle, .initialized RX5, .code yX5_isTitle cX5_isTitle 2 (some .boolean), .fieldLink RX5 83 "MeeplehouseModel" "titles" "I", .methodLink RX5 86 yX5_isIn, .static yX5_isIn, .code yX5_isIn cX5_isIn 3 (some .boolean), .methodLink RX5 99 yX5_isFine, .instanceMethod yX5_isFine, .selects RX5 yX5_isFine yX5_isFine, .code yX5_isFine cX5_isFine 2 (some .boolean), .fieldLink RX5 79 "MeeplehouseModel" "thrown" "I"] ++ wsX50)
def wsX5_addRule : List Cond := .code yX5_addRule cX5_addRule 9 (some .int) :: ([.fieldLink RX5 76 "MeeplehouseModel" "rules" "[I", .fieldLink RX5 64 "MeeplehouseModel" "parent" "[I", .fieldLink RX5 67 "MeeplehouseModel" "test" "[I", .fieldLink RX5 70 "MeeplehouseModel" "value" "[I", .fieldLink RX5 73 "MeeplehouseModel" "ruling" "[I", .methodLink RX5 109 yX5_isTitle, .instanceMethod yX5_isTitle, .selects RX5 yX5_isTitle yX5_isTitle, .initialized RX5, .code yX5_isTitle cX5_isTitle 2 (some .boolean), .fieldLink RX5 83 "MeeplehouseModel" "titles" "I", .methodLink RX5 86 yX5_isIn, .static yX5_isIn, .code yX5_isIn cX5_isIn 3 (some .boolean), .methodLink RX5 99 yX5_isFine, .instanceMethod yX5_isFine, .selects RX5 yX5_isFine yX5_isFine, .code yX5_isFine cX5_isFine 2 (some .boolean), .fieldLink RX5 79 "MeeplehouseModel" "thrown" "I"] ++ wsX50)
def wsX5_finds : List Cond := .code yX5_finds cX5_finds 7 (some .boolean) :: ([.fieldLink RX5 112 "MeeplehouseModel" "tooMany" "I", .fieldLink RX5 103 "MeeplehouseModel" "tables" "I", .fieldLink RX5 13 "MeeplehouseModel" "at" "[I", .fieldLink RX5 7 "MeeplehouseModel" "seats" "[I", .fieldLink RX5 115 "MeeplehouseModel" "manyTables" "I", .fieldLink RX5 118 "MeeplehouseModel" "firstTable" "I"] ++ wsX50)
def wsX5_sits : List Cond := .code yX5_sits cX5_sits 3 (some .boolean) :: ([.fieldLink RX5 16 "MeeplehouseModel" "players" "[I", .fieldLink RX5 118 "MeeplehouseModel" "firstTable" "I", .fieldLink RX5 115 "MeeplehouseModel" "manyTables" "I", .fieldLink RX5 13 "MeeplehouseModel" "at" "[I", .fieldLink RX5 22 "MeeplehouseModel" "state" "[I", .fieldLink RX5 25 "MeeplehouseModel" "since" "[I", .fieldLink RX5 96 "MeeplehouseModel" "now" "I", .methodLink RX5 121 yX5_finds, .instanceMethod yX5_finds, .selects RX5 yX5_finds yX5_finds, .initialized RX5, .code yX5_finds cX5_finds 7 (some .boolean), .fieldLink RX5 112 "MeeplehouseModel" "tooMany" "I", .fieldLink RX5 103 "MeeplehouseModel" "tables" "I", .fieldLink RX5 7 "MeeplehouseModel" "seats" "[I"] ++ wsX50)
def wsX5_arrive_r1 : List Cond := [Cond.fieldLink RX5 93 "MeeplehouseModel" "groups" "I", Cond.fieldLink RX5 16 "MeeplehouseModel" "players" "[I", Cond.fieldLink RX5 19 "MeeplehouseModel" "stay" "[I", Cond.fieldLink RX5 28 "MeeplehouseModel" "copy" "[I", Cond.fieldLink RX5 22 "MeeplehouseModel" "state" "[I", Cond.methodLink RX5 86 yX5_isIn, Cond.static yX5_isIn, Cond.initialized RX5, Cond.code yX5_isIn cX5_isIn 3 (some .boolean), Cond.methodLink RX5 99 yX5_isFine, Cond.instanceMethod yX5_isFine, Cond.selects RX5 yX5_isFine yX5_isFine, Cond.code yX5_isFine cX5_isFine 2 (some .boolean), Cond.fieldLink RX5 79 "MeeplehouseModel" "thrown" "I", Cond.methodLink RX5 124 yX5_sits, Cond.instanceMethod yX5_sits, Cond.selects RX5 yX5_sits yX5_sits, Cond.code yX5_sits cX5_sits 3 (some .boolean), Cond.fieldLink RX5 118 "MeeplehouseModel" "firstTable" "I", Cond.fieldLink RX5 115 "MeeplehouseModel" "manyTables" "I", Cond.fieldLink RX5 13 "MeeplehouseModel" "at" "[I", Cond.fieldLink RX5 25 "MeeplehouseModel" "since" "[I", Cond.fieldLink RX5 96 "MeeplehouseModel" "now" "I", Cond.methodLink RX5 121 yX5_finds]
def wsX5_arrive_r2 : List Cond := [Cond.instanceMethod yX5_finds, Cond.selects RX5 yX5_finds yX5_finds, Cond.code yX5_finds cX5_finds 7 (some .boolean), Cond.fieldLink RX5 112 "MeeplehouseModel" "tooMany" "I", Cond.fieldLink RX5 103 "MeeplehouseModel" "tables" "I", Cond.fieldLink RX5 7 "MeeplehouseModel" "seats" "[I"]
def wsX5_arrive : List Cond := .code yX5_arrive cX5_arrive 4 (some .int) :: ((wsX5_arrive_r1 ++ wsX5_arrive_r2) ++ wsX50)
def wsX5_leave_r1 : List Cond := [Cond.fieldLink RX5 28 "MeeplehouseModel" "copy" "[I", Cond.fieldLink RX5 22 "MeeplehouseModel" "state" "[I", Cond.fieldLink RX5 103 "MeeplehouseModel" "tables" "I", Cond.fieldLink RX5 13 "MeeplehouseModel" "at" "[I", Cond.fieldLink RX5 93 "MeeplehouseModel" "groups" "I", Cond.methodLink RX5 127 yX5_isGroup, Cond.instanceMethod yX5_isGroup, Cond.selects RX5 yX5_isGroup yX5_isGroup, Cond.initialized RX5, Cond.code yX5_isGroup cX5_isGroup 2 (some .boolean), Cond.methodLink RX5 86 yX5_isIn, Cond.static yX5_isIn, Cond.code yX5_isIn cX5_isIn 3 (some .boolean), Cond.methodLink RX5 99 yX5_isFine, Cond.instanceMethod yX5_isFine, Cond.selects RX5 yX5_isFine yX5_isFine, Cond.code yX5_isFine cX5_isFine 2 (some .boolean), Cond.fieldLink RX5 79 "MeeplehouseModel" "thrown" "I", Cond.methodLink RX5 124 yX5_sits, Cond.instanceMethod yX5_sits, Cond.selects RX5 yX5_sits yX5_sits, Cond.code yX5_sits cX5_sits 3 (some .boolean), Cond.fieldLink RX5 16 "MeeplehouseModel" "players" "[I", Cond.fieldLink RX5 118 "MeeplehouseModel" "firstTable" "I"]
def wsX5_leave_r2 : List Cond := [Cond.fieldLink RX5 115 "MeeplehouseModel" "manyTables" "I", Cond.fieldLink RX5 25 "MeeplehouseModel" "since" "[I", Cond.fieldLink RX5 96 "MeeplehouseModel" "now" "I", Cond.methodLink RX5 121 yX5_finds, Cond.instanceMethod yX5_finds, Cond.selects RX5 yX5_finds yX5_finds, Cond.code yX5_finds cX5_finds 7 (some .boolean), Cond.fieldLink RX5 112 "MeeplehouseModel" "tooMany" "I", Cond.fieldLink RX5 7 "MeeplehouseModel" "seats" "[I"]
def wsX5_leave : List Cond := .code yX5_leave cX5_leave 5 (some .int) :: ((wsX5_leave_r1 ++ wsX5_leave_r2) ++ wsX50)
def wsX5_tableOf : List Cond := .code yX5_tableOf cX5_tableOf 3 (some .int) :: ([.fieldLink RX5 103 "MeeplehouseModel" "tables" "I", .fieldLink RX5 13 "MeeplehouseModel" "at" "[I", .methodLink RX5 127 yX5_isGroup, .instanceMethod yX5_isGroup, .selects RX5 yX5_isGroup yX5_isGroup, .initialized RX5, .code yX5_isGroup cX5_isGroup 2 (some .boolean), .fieldLink RX5 93 "MeeplehouseModel" "groups" "I", .methodLink RX5 86 yX5_isIn, .static yX5_isIn, .code yX5_isIn cX5_isIn 3 (some .boolean), .methodLink RX5 99 yX5_isFine, .instanceMethod yX5_isFine, .selects RX5 yX5_isFine yX5_isFine, .code yX5_isFine cX5_isFine 2 (some .boolean), .fieldLink RX5 79 "MeeplehouseModel" "thrown" "I"] ++ wsX50)
def wsX5_tablesOf : List Cond := .code yX5_tablesOf cX5_tablesOf 4 (some .int) :: ([.fieldLink RX5 103 "MeeplehouseModel" "tables" "I", .fieldLink RX5 13 "MeeplehouseModel" "at" "[I", .methodLink RX5 127 yX5_isGroup, .instanceMethod yX5_isGroup, .selects RX5 yX5_isGroup yX5_isGroup, .initialized RX5, .code yX5_isGroup cX5_isGroup 2 (some .boolean), .fieldLink RX5 93 "MeeplehouseModel" "groups" "I", .methodLink RX5 86 yX5_isIn, .static yX5_isIn, .code yX5_isIn cX5_isIn 3 (some .boolean), .methodLink RX5 99 yX5_isFine, .instanceMethod yX5_isFine, .selects RX5 yX5_isFine yX5_isFine, .code yX5_isFine cX5_isFine 2 (some .boolean), .fieldLink RX5 79 "MeeplehouseModel" "thrown" "I"] ++ wsX50)
def wsX5_waiting : List Cond := .code yX5_waiting cX5_waiting 3 (some .int) :: ([.fieldLink RX5 79 "MeeplehouseModel" "thrown" "I", .fieldLink RX5 93 "MeeplehouseModel" "groups" "I", .fieldLink RX5 22 "MeeplehouseModel" "state" "[I"] ++ wsX50)
def wsX5_wasteNow : List Cond := .code yX5_wasteNow cX5_wasteNow 2 (some .int) :: ([.fieldLink RX5 112 "MeeplehouseModel" "tooMany" "I", .fieldLink RX5 79 "MeeplehouseModel" "thrown" "I", .methodLink RX5 86 yX5_isIn, .static yX5_isIn, .initialized RX5, .code yX5_isIn cX5_isIn 3 (some .boolean), .methodLink RX5 99 yX5_isFine, .instanceMethod yX5_isFine, .selects RX5 yX5_isFine yX5_isFine, .code yX5_isFine cX5_isFine 2 (some .boolean), .methodLink RX5 121 yX5_finds, .instanceMethod yX5_finds, .selects RX5 yX5_finds yX5_finds, .code yX5_finds cX5_finds 7 (some .boolean), .fieldLink RX5 103 "MeeplehouseModel" "tables" "I", .fieldLink RX5 13 "MeeplehouseModel" "at" "[I", .fieldLink RX5 7 "MeeplehouseModel" "seats" "[I", .fieldLink RX5 115 "MeeplehouseModel" "manyTables" "I", .fieldLink RX5 118 "MeeplehouseModel" "firstTable" "I"] ++ wsX50)
def wsX5_waste : List Cond := .code yX5_waste cX5_waste 2 (some .int) :: ([.methodLink RX5 130 yX5_wasteNow, .instanceMethod yX5_wasteNow, .selects RX5 yX5_wasteNow yX5_wasteNow, .initialized RX5, .code yX5_wasteNow cX5_wasteNow 2 (some .int), .fieldLink RX5 112 "MeeplehouseModel" "tooMany" "I", .fieldLink RX5 79 "MeeplehouseModel" "thrown" "I", .methodLink RX5 86 yX5_isIn, .static yX5_isIn, .code yX5_isIn cX5_isIn 3 (some .boolean), .methodLink RX5 99 yX5_isFine, .instanceMethod yX5_isFine, .selects RX5 yX5_isFine yX5_isFine, .code yX5_isFine cX5_isFine 2 (some .boolean), .methodLink RX5 121 yX5_finds, .instanceMethod yX5_finds, .selects RX5 yX5_finds yX5_finds, .code yX5_finds cX5_finds 7 (some .boolean), .fieldLink RX5 103 "MeeplehouseModel" "tables" "I", .fieldLink RX5 13 "MeeplehouseModel" "at" "[I", .fieldLink RX5 7 "MeeplehouseModel" "seats" "[I", .fieldLink RX5 115 "MeeplehouseModel" "manyTables" "I", .fieldLink RX5 118 "MeeplehouseModel" "firstTable" "I"] ++ wsX50)
def wsX5_wasteByAll : List Cond := .code yX5_wasteByAll cX5_wasteByAll 2 (some .int) :: ([.methodLink RX5 130 yX5_wasteNow, .instanceMethod yX5_wasteNow, .selects RX5 yX5_wasteNow yX5_wasteNow, .initialized RX5, .code yX5_wasteNow cX5_wasteNow 2 (some .int), .fieldLink RX5 112 "MeeplehouseModel" "tooMany" "I", .fieldLink RX5 79 "MeeplehouseModel" "thrown" "I", .methodLink RX5 86 yX5_isIn, .static yX5_isIn, .code yX5_isIn cX5_isIn 3 (some .boolean), .methodLink RX5 99 yX5_isFine, .instanceMethod yX5_isFine, .selects RX5 yX5_isFine yX5_isFine, .code yX5_isFine cX5_isFine 2 (some .boolean), .methodLink RX5 121 yX5_finds, .instanceMethod yX5_finds, .selects RX5 yX5_finds yX5_finds, .code yX5_finds cX5_finds 7 (some .boolean), .fieldLink RX5 103 "MeeplehouseModel" "tables" "I", .fieldLink RX5 13 "MeeplehouseModel" "at" "[I", .fieldLink RX5 7 "MeeplehouseModel" "seats" "[I", .fieldLink RX5 115 "MeeplehouseModel" "manyTables" "I", .fieldLink RX5 118 "MeeplehouseModel" "firstTable" "I"] ++ wsX50)
def wsX5_leftOf : List Cond := .code yX5_leftOf cX5_leftOf 3 (some .int) :: ([.fieldLink RX5 25 "MeeplehouseModel" "since" "[I", .fieldLink RX5 19 "MeeplehouseModel" "stay" "[I", .fieldLink RX5 96 "MeeplehouseModel" "now" "I"] ++ wsX50)
def wsX5_left : List Cond := .code yX5_left cX5_left 3 (some .int) :: ([.fieldLink RX5 22 "MeeplehouseModel" "state" "[I", .methodLink RX5 127 yX5_isGroup, .instanceMethod yX5_isGroup, .selects RX5 yX5_isGroup yX5_isGroup, .initialized RX5, .code yX5_isGroup cX5_isGroup 2 (some .boolean), .fieldLink RX5 93 "MeeplehouseModel" "groups" "I", .methodLink RX5 86 yX5_isIn, .static yX5_isIn, .code yX5_isIn cX5_isIn 3 (some .boolean), .methodLink RX5 99 yX5_isFine, .instanceMethod yX5_isFine, .selects RX5 yX5_isFine yX5_isFine, .code yX5_isFine cX5_isFine 2 (some .boolean), .fieldLink RX5 79 "MeeplehouseModel" "thrown" "I", .methodLink RX5 134 yX5_leftOf, .instanceMethod yX5_leftOf, .selects RX5 yX5_leftOf yX5_leftOf, .code yX5_leftOf cX5_leftOf 3 (some .int), .fieldLink RX5 25 "MeeplehouseModel" "since" "[I", .fieldLink RX5 19 "MeeplehouseModel" "stay" "[I", .fieldLink RX5 96 "MeeplehouseModel" "now" "I"] ++ wsX50)
def wsX5_makes : List Cond := .code yX5_makes cX5_makes 7 (some .int) :: ([.fieldLink RX5 40 "MeeplehouseModel" "whole" "[I", .fieldLink RX5 43 "MeeplehouseModel" "title" "[I", .fieldLink RX5 49 "MeeplehouseModel" "pieces" "[I", .fieldLink RX5 90 "MeeplehouseModel" "copies" "I", .fieldLink RX5 46 "MeeplehouseModel" "where" "[I"] ++ wsX50)
def wsX5_count : List Cond := .code yX5_count cX5_count 3 (some .int) :: ([])
def wsX5_lendersOf : List Cond := .code yX5_lendersOf cX5_lendersOf 3 (some .int) :: ([.fieldLink RX5 46 "MeeplehouseModel" "where" "[I", .methodLink RX5 137 yX5_makes, .instanceMethod yX5_makes, .selects RX5 yX5_makes yX5_makes, .initialized RX5, .code yX5_makes cX5_makes 7 (some .int), .fieldLink RX5 40 "MeeplehouseModel" "whole" "[I", .fieldLink RX5 43 "MeeplehouseModel" "title" "[I", .fieldLink RX5 49 "MeeplehouseModel" "pieces" "[I", .fieldLink RX5 90 "MeeplehouseModel" "copies" "I", .methodLink RX5 140 yX5_count, .static yX5_count, .code yX5_count cX5_count 3 (some .int)] ++ wsX50)
def wsX5_bestCopy : List Cond := .code yX5_bestCopy cX5_bestCopy 5 (some .int) :: ([.fieldLink RX5 90 "MeeplehouseModel" "copies" "I", .fieldLink RX5 43 "MeeplehouseModel" "title" "[I", .methodLink RX5 143 yX5_lendersOf, .instanceMethod yX5_lendersOf, .selects RX5 yX5_lendersOf yX5_lendersOf, .initialized RX5, .code yX5_lendersOf cX5_lendersOf 3 (some .int), .fieldLink RX5 46 "MeeplehouseModel" "where" "[I", .methodLink RX5 137 yX5_makes, .instanceMethod yX5_makes, .selects RX5 yX5_makes yX5_makes, .code yX5_makes cX5_makes 7 (some .int), .fieldLink RX5 40 "MeeplehouseModel" "whole" "[I", .fieldLink RX5 49 "MeeplehouseModel" "pieces" "[I", .methodLink RX5 140 yX5_count, .static yX5_count, .code yX5_count cX5_count 3 (some .int)] ++ wsX50)
def wsX5_isOffered_r1 : List Cond := [Cond.fieldLink RX5 22 "MeeplehouseModel" "state" "[I", Cond.fieldLink RX5 28 "MeeplehouseModel" "copy" "[I", Cond.fieldLink RX5 16 "MeeplehouseModel" "players" "[I", Cond.fieldLink RX5 31 "MeeplehouseModel" "least" "[I", Cond.fieldLink RX5 34 "MeeplehouseModel" "most" "[I", Cond.fieldLink RX5 37 "MeeplehouseModel" "minutes" "[I", Cond.methodLink RX5 86 yX5_isIn, Cond.static yX5_isIn, Cond.initialized RX5, Cond.code yX5_isIn cX5_isIn 3 (some .boolean), Cond.methodLink RX5 134 yX5_leftOf, Cond.instanceMethod yX5_leftOf, Cond.selects RX5 yX5_leftOf yX5_leftOf, Cond.code yX5_leftOf cX5_leftOf 3 (some .int), Cond.fieldLink RX5 25 "MeeplehouseModel" "since" "[I", Cond.fieldLink RX5 19 "MeeplehouseModel" "stay" "[I", Cond.fieldLink RX5 96 "MeeplehouseModel" "now" "I", Cond.methodLink RX5 146 yX5_bestCopy, Cond.instanceMethod yX5_bestCopy, Cond.selects RX5 yX5_bestCopy yX5_bestCopy, Cond.code yX5_bestCopy cX5_bestCopy 5 (some .int), Cond.fieldLink RX5 90 "MeeplehouseModel" "copies" "I", Cond.fieldLink RX5 43 "MeeplehouseModel" "title" "[I", Cond.methodLink RX5 143 yX5_lendersOf]
def wsX5_isOffered_r2 : List Cond := [Cond.instanceMethod yX5_lendersOf, Cond.selects RX5 yX5_lendersOf yX5_lendersOf, Cond.code yX5_lendersOf cX5_lendersOf 3 (some .int), Cond.fieldLink RX5 46 "MeeplehouseModel" "where" "[I", Cond.methodLink RX5 137 yX5_makes, Cond.instanceMethod yX5_makes, Cond.selects RX5 yX5_makes yX5_makes, Cond.code yX5_makes cX5_makes 7 (some .int), Cond.fieldLink RX5 40 "MeeplehouseModel" "whole" "[I", Cond.fieldLink RX5 49 "MeeplehouseModel" "pieces" "[I", Cond.methodLink RX5 140 yX5_count, Cond.static yX5_count, Cond.code yX5_count cX5_count 3 (some .int)]
def wsX5_isOffered : List Cond := .code yX5_isOffered cX5_isOffered 4 (some .boolean) :: ((wsX5_isOffered_r1 ++ wsX5_isOffered_r2) ++ wsX50)
def wsX5_offersTo_r1 : List Cond := [Cond.fieldLink RX5 83 "MeeplehouseModel" "titles" "I", Cond.methodLink RX5 149 yX5_isOffered, Cond.instanceMethod yX5_isOffered, Cond.selects RX5 yX5_isOffered yX5_isOffered, Cond.initialized RX5, Cond.code yX5_isOffered cX5_isOffered 4 (some .boolean), Cond.fieldLink RX5 22 "MeeplehouseModel" "state" "[I", Cond.fieldLink RX5 28 "MeeplehouseModel" "copy" "[I", Cond.fieldLink RX5 16 "MeeplehouseModel" "players" "[I", Cond.fieldLink RX5 31 "MeeplehouseModel" "least" "[I", Cond.fieldLink RX5 34 "MeeplehouseModel" "most" "[I", Cond.fieldLink RX5 37 "MeeplehouseModel" "minutes" "[I", Cond.methodLink RX5 86 yX5_isIn, Cond.static yX5_isIn, Cond.code yX5_isIn cX5_isIn 3 (some .boolean), Cond.methodLink RX5 134 yX5_leftOf, Cond.instanceMethod yX5_leftOf, Cond.selects RX5 yX5_leftOf yX5_leftOf, Cond.code yX5_leftOf cX5_leftOf 3 (some .int), Cond.fieldLink RX5 25 "MeeplehouseModel" "since" "[I", Cond.fieldLink RX5 19 "MeeplehouseModel" "stay" "[I", Cond.fieldLink RX5 96 "MeeplehouseModel" "now" "I", Cond.methodLink RX5 146 yX5_bestCopy, Cond.instanceMethod yX5_bestCopy]
def wsX5_offersTo_r2 : List Cond := [Cond.selects RX5 yX5_bestCopy yX5_bestCopy, Cond.code yX5_bestCopy cX5_bestCopy 5 (some .int), Cond.fieldLink RX5 90 "MeeplehouseModel" "copies" "I", Cond.fieldLink RX5 43 "MeeplehouseModel" "title" "[I", Cond.methodLink RX5 143 yX5_lendersOf, Cond.instanceMethod yX5_lendersOf, Cond.selects RX5 yX5_lendersOf yX5_lendersOf, Cond.code yX5_lendersOf cX5_lendersOf 3 (some .int), Cond.fieldLink RX5 46 "MeeplehouseModel" "where" "[I", Cond.methodLink RX5 137 yX5_makes, Cond.instanceMethod yX5_makes, Cond.selects RX5 yX5_makes yX5_makes, Cond.code yX5_makes cX5_makes 7 (some .int), Cond.fieldLink RX5 40 "MeeplehouseModel" "whole" "[I", Cond.fieldLink RX5 49 "MeeplehouseModel" "pieces" "[I", Cond.methodLink RX5 140 yX5_count, Cond.static yX5_count, Cond.code yX5_count cX5_count 3 (some .int)]
def wsX5_offersTo : List Cond := .code yX5_offersTo cX5_offersTo 4 (some .int) :: ((wsX5_offersTo_r1 ++ wsX5_offersTo_r2) ++ wsX50)
def wsX5_offers_r1 : List Cond := [Cond.methodLink RX5 127 yX5_isGroup, Cond.instanceMethod yX5_isGroup, Cond.selects RX5 yX5_isGroup yX5_isGroup, Cond.initialized RX5, Cond.code yX5_isGroup cX5_isGroup 2 (some .boolean), Cond.fieldLink RX5 93 "MeeplehouseModel" "groups" "I", Cond.methodLink RX5 86 yX5_isIn, Cond.static yX5_isIn, Cond.code yX5_isIn cX5_isIn 3 (some .boolean), Cond.methodLink RX5 99 yX5_isFine, Cond.instanceMethod yX5_isFine, Cond.selects RX5 yX5_isFine yX5_isFine, Cond.code yX5_isFine cX5_isFine 2 (some .boolean), Cond.fieldLink RX5 79 "MeeplehouseModel" "thrown" "I", Cond.methodLink RX5 153 yX5_offersTo, Cond.instanceMethod yX5_offersTo, Cond.selects RX5 yX5_offersTo yX5_offersTo, Cond.code yX5_offersTo cX5_offersTo 4 (some .int), Cond.fieldLink RX5 83 "MeeplehouseModel" "titles" "I", Cond.methodLink RX5 149 yX5_isOffered, Cond.instanceMethod yX5_isOffered, Cond.selects RX5 yX5_isOffered yX5_isOffered, Cond.code yX5_isOffered cX5_isOffered 4 (some .boolean), Cond.fieldLink RX5 22 "MeeplehouseModel" "state" "[I"]
def wsX5_offers_r2 : List Cond := [Cond.fieldLink RX5 28 "MeeplehouseModel" "copy" "[I", Cond.fieldLink RX5 16 "MeeplehouseModel" "players" "[I", Cond.fieldLink RX5 31 "MeeplehouseModel" "least" "[I", Cond.fieldLink RX5 34 "MeeplehouseModel" "most" "[I", Cond.fieldLink RX5 37 "MeeplehouseModel" "minutes" "[I", Cond.methodLink RX5 134 yX5_leftOf, Cond.instanceMethod yX5_leftOf, Cond.selects RX5 yX5_leftOf yX5_leftOf, Cond.code yX5_leftOf cX5_leftOf 3 (some .int), Cond.fieldLink RX5 25 "MeeplehouseModel" "since" "[I", Cond.fieldLink RX5 19 "MeeplehouseModel" "stay" "[I", Cond.fieldLink RX5 96 "MeeplehouseModel" "now" "I", Cond.methodLink RX5 146 yX5_bestCopy, Cond.instanceMethod yX5_bestCopy, Cond.selects RX5 yX5_bestCopy yX5_bestCopy, Cond.code yX5_bestCopy cX5_bestCopy 5 (some .int), Cond.fieldLink RX5 90 "MeeplehouseModel" "copies" "I", Cond.fieldLink RX5 43 "MeeplehouseModel" "title" "[I", Cond.methodLink RX5 143 yX5_lendersOf, Cond.instanceMethod yX5_lendersOf, Cond.selects RX5 yX5_lendersOf yX5_lendersOf, Cond.code yX5_lendersOf cX5_lendersOf 3 (some .int), Cond.fieldLink RX5 46 "MeeplehouseModel" "where" "[I", Cond.methodLink RX5 137 yX5_makes]
def wsX5_offers_r3 : List Cond := [Cond.instanceMethod yX5_makes, Cond.selects RX5 yX5_makes yX5_makes, Cond.code yX5_makes cX5_makes 7 (some .int), Cond.fieldLink RX5 40 "MeeplehouseModel" "whole" "[I", Cond.fieldLink RX5 49 "MeeplehouseModel" "pieces" "[I", Cond.methodLink RX5 140 yX5_count, Cond.static yX5_count, Cond.code yX5_count cX5_count 3 (some .int)]
def wsX5_offers : List Cond := .code yX5_offers cX5_offers 2 (some .int) :: ((wsX5_offers_r1 ++ (wsX5_offers_r2 ++ wsX5_offers_r3)) ++ wsX50)
def wsX5_ahead_r1 : List Cond := [Cond.fieldLink RX5 83 "MeeplehouseModel" "titles" "I", Cond.fieldLink RX5 37 "MeeplehouseModel" "minutes" "[I", Cond.methodLink RX5 149 yX5_isOffered, Cond.instanceMethod yX5_isOffered, Cond.selects RX5 yX5_isOffered yX5_isOffered, Cond.initialized RX5, Cond.code yX5_isOffered cX5_isOffered 4 (some .boolean), Cond.fieldLink RX5 22 "MeeplehouseModel" "state" "[I", Cond.fieldLink RX5 28 "MeeplehouseModel" "copy" "[I", Cond.fieldLink RX5 16 "MeeplehouseModel" "players" "[I", Cond.fieldLink RX5 31 "MeeplehouseModel" "least" "[I", Cond.fieldLink RX5 34 "MeeplehouseModel" "most" "[I", Cond.methodLink RX5 86 yX5_isIn, Cond.static yX5_isIn, Cond.code yX5_isIn cX5_isIn 3 (some .boolean), Cond.methodLink RX5 134 yX5_leftOf, Cond.instanceMethod yX5_leftOf, Cond.selects RX5 yX5_leftOf yX5_leftOf, Cond.code yX5_leftOf cX5_leftOf 3 (some .int), Cond.fieldLink RX5 25 "MeeplehouseModel" "since" "[I", Cond.fieldLink RX5 19 "MeeplehouseModel" "stay" "[I", Cond.fieldLink RX5 96 "MeeplehouseModel" "now" "I", Cond.methodLink RX5 146 yX5_bestCopy, Cond.instanceMethod yX5_bestCopy]
def wsX5_ahead_r2 : List Cond := [Cond.selects RX5 yX5_bestCopy yX5_bestCopy, Cond.code yX5_bestCopy cX5_bestCopy 5 (some .int), Cond.fieldLink RX5 90 "MeeplehouseModel" "copies" "I", Cond.fieldLink RX5 43 "MeeplehouseModel" "title" "[I", Cond.methodLink RX5 143 yX5_lendersOf, Cond.instanceMethod yX5_lendersOf, Cond.selects RX5 yX5_lendersOf yX5_lendersOf, Cond.code yX5_lendersOf cX5_lendersOf 3 (some .int), Cond.fieldLink RX5 46 "MeeplehouseModel" "where" "[I", Cond.methodLink RX5 137 yX5_makes, Cond.instanceMethod yX5_makes, Cond.selects RX5 yX5_makes yX5_makes, Cond.code yX5_makes cX5_makes 7 (some .int), Cond.fieldLink RX5 40 "MeeplehouseModel" "whole" "[I", Cond.fieldLink RX5 49 "MeeplehouseModel" "pieces" "[I", Cond.methodLink RX5 140 yX5_count, Cond.static yX5_count, Cond.code yX5_count cX5_count 3 (some .int)]
def wsX5_ahead : List Cond := .code yX5_ahead cX5_ahead 6 (some .int) :: ((wsX5_ahead_r1 ++ wsX5_ahead_r2) ++ wsX50)
def wsX5_offerAt_r1 : List Cond := [Cond.fieldLink RX5 83 "MeeplehouseModel" "titles" "I", Cond.methodLink RX5 127 yX5_isGroup, Cond.instanceMethod yX5_isGroup, Cond.selects RX5 yX5_isGroup yX5_isGroup, Cond.initialized RX5, Cond.code yX5_isGroup cX5_isGroup 2 (some .boolean), Cond.fieldLink RX5 93 "MeeplehouseModel" "groups" "I", Cond.methodLink RX5 86 yX5_isIn, Cond.static yX5_isIn, Cond.code yX5_isIn cX5_isIn 3 (some .boolean), Cond.methodLink RX5 153 yX5_offersTo, Cond.instanceMethod yX5_offersTo, Cond.selects RX5 yX5_offersTo yX5_offersTo, Cond.code yX5_offersTo cX5_offersTo 4 (some .int), Cond.methodLink RX5 149 yX5_isOffered, Cond.instanceMethod yX5_isOffered, Cond.selects RX5 yX5_isOffered yX5_isOffered, Cond.code yX5_isOffered cX5_isOffered 4 (some .boolean), Cond.fieldLink RX5 22 "MeeplehouseModel" "state" "[I", Cond.fieldLink RX5 28 "MeeplehouseModel" "copy" "[I", Cond.fieldLink RX5 16 "MeeplehouseModel" "players" "[I", Cond.fieldLink RX5 31 "MeeplehouseModel" "least" "[I", Cond.fieldLink RX5 34 "MeeplehouseModel" "most" "[I", Cond.fieldLink RX5 37 "MeeplehouseModel" "minutes" "[I"]
def wsX5_offerAt_r2 : List Cond := [Cond.methodLink RX5 134 yX5_leftOf, Cond.instanceMethod yX5_leftOf, Cond.selects RX5 yX5_leftOf yX5_leftOf, Cond.code yX5_leftOf cX5_leftOf 3 (some .int), Cond.fieldLink RX5 25 "MeeplehouseModel" "since" "[I", Cond.fieldLink RX5 19 "MeeplehouseModel" "stay" "[I", Cond.fieldLink RX5 96 "MeeplehouseModel" "now" "I", Cond.methodLink RX5 146 yX5_bestCopy, Cond.instanceMethod yX5_bestCopy, Cond.selects RX5 yX5_bestCopy yX5_bestCopy, Cond.code yX5_bestCopy cX5_bestCopy 5 (some .int), Cond.fieldLink RX5 90 "MeeplehouseModel" "copies" "I", Cond.fieldLink RX5 43 "MeeplehouseModel" "title" "[I", Cond.methodLink RX5 143 yX5_lendersOf, Cond.instanceMethod yX5_lendersOf, Cond.selects RX5 yX5_lendersOf yX5_lendersOf, Cond.code yX5_lendersOf cX5_lendersOf 3 (some .int), Cond.fieldLink RX5 46 "MeeplehouseModel" "where" "[I", Cond.methodLink RX5 137 yX5_makes, Cond.instanceMethod yX5_makes, Cond.selects RX5 yX5_makes yX5_makes, Cond.code yX5_makes cX5_makes 7 (some .int), Cond.fieldLink RX5 40 "MeeplehouseModel" "whole" "[I", Cond.fieldLink RX5 49 "MeeplehouseModel" "pieces" "[I"]
def wsX5_offerAt_r3 : List Cond := [Cond.methodLink RX5 140 yX5_count, Cond.static yX5_count, Cond.code yX5_count cX5_count 3 (some .int), Cond.methodLink RX5 99 yX5_isFine, Cond.instanceMethod yX5_isFine, Cond.selects RX5 yX5_isFine yX5_isFine, Cond.code yX5_isFine cX5_isFine 2 (some .boolean), Cond.fieldLink RX5 79 "MeeplehouseModel" "thrown" "I", Cond.methodLink RX5 156 yX5_ahead, Cond.instanceMethod yX5_ahead, Cond.selects RX5 yX5_ahead yX5_ahead, Cond.code yX5_ahead cX5_ahead 6 (some .int)]
def wsX5_offerAt : List Cond := .code yX5_offerAt cX5_offerAt 6 (some .int) :: ((wsX5_offerAt_r1 ++ (wsX5_offerAt_r2 ++ wsX5_offerAt_r3)) ++ wsX50)
def wsX5_lendsTo : List Cond := .code yX5_lendsTo cX5_lendsTo 5 (some .boolean) :: ([.fieldLink RX5 163 "MeeplehouseModel" "loans" "I", .fieldLink RX5 58 "MeeplehouseModel" "lender" "[I", .fieldLink RX5 52 "MeeplehouseModel" "borrower" "[I"] ++ wsX50)
def wsX5_lends : List Cond := .code yX5_lends cX5_lends 6 none :: ([.fieldLink RX5 40 "MeeplehouseModel" "whole" "[I", .fieldLink RX5 43 "MeeplehouseModel" "title" "[I", .fieldLink RX5 49 "MeeplehouseModel" "pieces" "[I", .fieldLink RX5 90 "MeeplehouseModel" "copies" "I", .fieldLink RX5 46 "MeeplehouseModel" "where" "[I", .fieldLink RX5 52 "MeeplehouseModel" "borrower" "[I", .fieldLink RX5 163 "MeeplehouseModel" "loans" "I", .fieldLink RX5 55 "MeeplehouseModel" "kindLent" "[I", .fieldLink RX5 58 "MeeplehouseModel" "lender" "[I", .fieldLink RX5 61 "MeeplehouseModel" "lent" "[I", .methodLink RX5 160 yX5_lendsTo, .instanceMethod yX5_lendsTo, .selects RX5 yX5_lendsTo yX5_lendsTo, .initialized RX5, .code yX5_lendsTo cX5_lendsTo 5 (some .boolean)] ++ wsX50)
def wsX5_serve_r1 : List Cond := [Cond.fieldLink RX5 46 "MeeplehouseModel" "where" "[I", Cond.fieldLink RX5 28 "MeeplehouseModel" "copy" "[I", Cond.methodLink RX5 127 yX5_isGroup, Cond.instanceMethod yX5_isGroup, Cond.selects RX5 yX5_isGroup yX5_isGroup, Cond.initialized RX5, Cond.code yX5_isGroup cX5_isGroup 2 (some .boolean), Cond.fieldLink RX5 93 "MeeplehouseModel" "groups" "I", Cond.methodLink RX5 86 yX5_isIn, Cond.static yX5_isIn, Cond.code yX5_isIn cX5_isIn 3 (some .boolean), Cond.methodLink RX5 109 yX5_isTitle, Cond.instanceMethod yX5_isTitle, Cond.selects RX5 yX5_isTitle yX5_isTitle, Cond.code yX5_isTitle cX5_isTitle 2 (some .boolean), Cond.fieldLink RX5 83 "MeeplehouseModel" "titles" "I", Cond.methodLink RX5 149 yX5_isOffered, Cond.instanceMethod yX5_isOffered, Cond.selects RX5 yX5_isOffered yX5_isOffered, Cond.code yX5_isOffered cX5_isOffered 4 (some .boolean), Cond.fieldLink RX5 22 "MeeplehouseModel" "state" "[I", Cond.fieldLink RX5 16 "MeeplehouseModel" "players" "[I", Cond.fieldLink RX5 31 "MeeplehouseModel" "least" "[I", Cond.fieldLink RX5 34 "MeeplehouseModel" "most" "[I"]
def wsX5_serve_r2 : List Cond := [Cond.fieldLink RX5 37 "MeeplehouseModel" "minutes" "[I", Cond.methodLink RX5 134 yX5_leftOf, Cond.instanceMethod yX5_leftOf, Cond.selects RX5 yX5_leftOf yX5_leftOf, Cond.code yX5_leftOf cX5_leftOf 3 (some .int), Cond.fieldLink RX5 25 "MeeplehouseModel" "since" "[I", Cond.fieldLink RX5 19 "MeeplehouseModel" "stay" "[I", Cond.fieldLink RX5 96 "MeeplehouseModel" "now" "I", Cond.methodLink RX5 146 yX5_bestCopy, Cond.instanceMethod yX5_bestCopy, Cond.selects RX5 yX5_bestCopy yX5_bestCopy, Cond.code yX5_bestCopy cX5_bestCopy 5 (some .int), Cond.fieldLink RX5 90 "MeeplehouseModel" "copies" "I", Cond.fieldLink RX5 43 "MeeplehouseModel" "title" "[I", Cond.methodLink RX5 143 yX5_lendersOf, Cond.instanceMethod yX5_lendersOf, Cond.selects RX5 yX5_lendersOf yX5_lendersOf, Cond.code yX5_lendersOf cX5_lendersOf 3 (some .int), Cond.methodLink RX5 137 yX5_makes, Cond.instanceMethod yX5_makes, Cond.selects RX5 yX5_makes yX5_makes, Cond.code yX5_makes cX5_makes 7 (some .int), Cond.fieldLink RX5 40 "MeeplehouseModel" "whole" "[I", Cond.fieldLink RX5 49 "MeeplehouseModel" "pieces" "[I"]
def wsX5_serve_r3 : List Cond := [Cond.methodLink RX5 140 yX5_count, Cond.static yX5_count, Cond.code yX5_count cX5_count 3 (some .int), Cond.methodLink RX5 99 yX5_isFine, Cond.instanceMethod yX5_isFine, Cond.selects RX5 yX5_isFine yX5_isFine, Cond.code yX5_isFine cX5_isFine 2 (some .boolean), Cond.fieldLink RX5 79 "MeeplehouseModel" "thrown" "I", Cond.methodLink RX5 166 yX5_lends, Cond.instanceMethod yX5_lends, Cond.selects RX5 yX5_lends yX5_lends, Cond.code yX5_lends cX5_lends 6 none, Cond.fieldLink RX5 52 "MeeplehouseModel" "borrower" "[I", Cond.fieldLink RX5 163 "MeeplehouseModel" "loans" "I", Cond.fieldLink RX5 55 "MeeplehouseModel" "kindLent" "[I", Cond.fieldLink RX5 58 "MeeplehouseModel" "lender" "[I", Cond.fieldLink RX5 61 "MeeplehouseModel" "lent" "[I", Cond.methodLink RX5 160 yX5_lendsTo, Cond.instanceMethod yX5_lendsTo, Cond.selects RX5 yX5_lendsTo yX5_lendsTo, Cond.code yX5_lendsTo cX5_lendsTo 5 (some .boolean)]
def wsX5_serve : List Cond := .code yX5_serve cX5_serve 5 (some .int) :: ((wsX5_serve_r1 ++ (wsX5_serve_r2 ++ wsX5_serve_r3)) ++ wsX50)
def wsX5_closes : List Cond := .code yX5_closes cX5_closes 7 (some .int) :: ([.fieldLink RX5 163 "MeeplehouseModel" "loans" "I", .fieldLink RX5 52 "MeeplehouseModel" "borrower" "[I", .fieldLink RX5 49 "MeeplehouseModel" "pieces" "[I", .fieldLink RX5 55 "MeeplehouseModel" "kindLent" "[I", .fieldLink RX5 61 "MeeplehouseModel" "lent" "[I", .fieldLink RX5 58 "MeeplehouseModel" "lender" "[I", .fieldLink RX5 46 "MeeplehouseModel" "where" "[I"] ++ wsX50)
def wsX5_giveBack_r1 : List Cond := [Cond.fieldLink RX5 28 "MeeplehouseModel" "copy" "[I", Cond.fieldLink RX5 49 "MeeplehouseModel" "pieces" "[I", Cond.fieldLink RX5 46 "MeeplehouseModel" "where" "[I", Cond.methodLink RX5 127 yX5_isGroup, Cond.instanceMethod yX5_isGroup, Cond.selects RX5 yX5_isGroup yX5_isGroup, Cond.initialized RX5, Cond.code yX5_isGroup cX5_isGroup 2 (some .boolean), Cond.fieldLink RX5 93 "MeeplehouseModel" "groups" "I", Cond.methodLink RX5 86 yX5_isIn, Cond.static yX5_isIn, Cond.code yX5_isIn cX5_isIn 3 (some .boolean), Cond.methodLink RX5 170 yX5_isKind, Cond.static yX5_isKind, Cond.code yX5_isKind cX5_isKind 1 (some .boolean), Cond.methodLink RX5 106 yX5_arePieces, Cond.static yX5_arePieces, Cond.code yX5_arePieces cX5_arePieces 1 (some .boolean), Cond.methodLink RX5 99 yX5_isFine, Cond.instanceMethod yX5_isFine, Cond.selects RX5 yX5_isFine yX5_isFine, Cond.code yX5_isFine cX5_isFine 2 (some .boolean), Cond.fieldLink RX5 79 "MeeplehouseModel" "thrown" "I", Cond.methodLink RX5 173 yX5_closes]
def wsX5_giveBack_r2 : List Cond := [Cond.instanceMethod yX5_closes, Cond.selects RX5 yX5_closes yX5_closes, Cond.code yX5_closes cX5_closes 7 (some .int), Cond.fieldLink RX5 163 "MeeplehouseModel" "loans" "I", Cond.fieldLink RX5 52 "MeeplehouseModel" "borrower" "[I", Cond.fieldLink RX5 55 "MeeplehouseModel" "kindLent" "[I", Cond.fieldLink RX5 61 "MeeplehouseModel" "lent" "[I", Cond.fieldLink RX5 58 "MeeplehouseModel" "lender" "[I"]
def wsX5_giveBack : List Cond := .code yX5_giveBack cX5_giveBack 7 (some .int) :: ((wsX5_giveBack_r1 ++ wsX5_giveBack_r2) ++ wsX50)
def wsX5_found : List Cond := .code yX5_found cX5_found 6 (some .int) :: ([.fieldLink RX5 46 "MeeplehouseModel" "where" "[I", .fieldLink RX5 49 "MeeplehouseModel" "pieces" "[I", .fieldLink RX5 40 "MeeplehouseModel" "whole" "[I", .fieldLink RX5 43 "MeeplehouseModel" "title" "[I", .methodLink RX5 176 yX5_isCopy, .instanceMethod yX5_isCopy, .selects RX5 yX5_isCopy yX5_isCopy, .initialized RX5, .code yX5_isCopy cX5_isCopy 2 (some .boolean), .fieldLink RX5 90 "MeeplehouseModel" "copies" "I", .methodLink RX5 86 yX5_isIn, .static yX5_isIn, .code yX5_isIn cX5_isIn 3 (some .boolean), .methodLink RX5 170 yX5_isKind, .static yX5_isKind, .code yX5_isKind cX5_isKind 1 (some .boolean), .methodLink RX5 99 yX5_isFine, .instanceMethod yX5_isFine, .selects RX5 yX5_isFine yX5_isFine, .code yX5_isFine cX5_isFine 2 (some .boolean), .fieldLink RX5 79 "MeeplehouseModel" "thrown" "I"] ++ wsX50)
def wsX5_pieces : List Cond := .code yX5_pieces cX5_pieces 3 (some .int) :: ([.fieldLink RX5 49 "MeeplehouseModel" "pieces" "[I", .methodLink RX5 176 yX5_isCopy, .instanceMethod yX5_isCopy, .selects RX5 yX5_isCopy yX5_isCopy, .initialized RX5, .code yX5_isCopy cX5_isCopy 2 (some .boolean), .fieldLink RX5 90 "MeeplehouseModel" "copies" "I", .methodLink RX5 86 yX5_isIn, .static yX5_isIn, .code yX5_isIn cX5_isIn 3 (some .boolean), .methodLink RX5 170 yX5_isKind, .static yX5_isKind, .code yX5_isKind cX5_isKind 1 (some .boolean), .methodLink RX5 99 yX5_isFine, .instanceMethod yX5_isFine, .selects RX5 yX5_isFine yX5_isFine, .code yX5_isFine cX5_isFine 2 (some .boolean), .fieldLink RX5 79 "MeeplehouseModel" "thrown" "I"] ++ wsX50)
def wsX5_stateOf : List Cond := .code yX5_stateOf cX5_stateOf 2 (some .int) :: ([.fieldLink RX5 46 "MeeplehouseModel" "where" "[I", .methodLink RX5 176 yX5_isCopy, .instanceMethod yX5_isCopy, .selects RX5 yX5_isCopy yX5_isCopy, .initialized RX5, .code yX5_isCopy cX5_isCopy 2 (some .boolean), .fieldLink RX5 90 "MeeplehouseModel" "copies" "I", .methodLink RX5 86 yX5_isIn, .static yX5_isIn, .code yX5_isIn cX5_isIn 3 (some .boolean), .methodLink RX5 99 yX5_isFine, .instanceMethod yX5_isFine, .selects RX5 yX5_isFine yX5_isFine, .code yX5_isFine cX5_isFine 2 (some .boolean), .fieldLink RX5 79 "MeeplehouseModel" "thrown" "I"] ++ wsX50)
def wsX5_lenders_r1 : List Cond := [Cond.methodLink RX5 176 yX5_isCopy, Cond.instanceMethod yX5_isCopy, Cond.selects RX5 yX5_isCopy yX5_isCopy, Cond.initialized RX5, Cond.code yX5_isCopy cX5_isCopy 2 (some .boolean), Cond.fieldLink RX5 90 "MeeplehouseModel" "copies" "I", Cond.methodLink RX5 86 yX5_isIn, Cond.static yX5_isIn, Cond.code yX5_isIn cX5_isIn 3 (some .boolean), Cond.methodLink RX5 99 yX5_isFine, Cond.instanceMethod yX5_isFine, Cond.selects RX5 yX5_isFine yX5_isFine, Cond.code yX5_isFine cX5_isFine 2 (some .boolean), Cond.fieldLink RX5 79 "MeeplehouseModel" "thrown" "I", Cond.methodLink RX5 143 yX5_lendersOf, Cond.instanceMethod yX5_lendersOf, Cond.selects RX5 yX5_lendersOf yX5_lendersOf, Cond.code yX5_lendersOf cX5_lendersOf 3 (some .int), Cond.fieldLink RX5 46 "MeeplehouseModel" "where" "[I", Cond.methodLink RX5 137 yX5_makes, Cond.instanceMethod yX5_makes, Cond.selects RX5 yX5_makes yX5_makes, Cond.code yX5_makes cX5_makes 7 (some .int), Cond.fieldLink RX5 40 "MeeplehouseModel" "whole" "[I"]
def wsX5_lenders_r2 : List Cond := [Cond.fieldLink RX5 43 "MeeplehouseModel" "title" "[I", Cond.fieldLink RX5 49 "MeeplehouseModel" "pieces" "[I", Cond.methodLink RX5 140 yX5_count, Cond.static yX5_count, Cond.code yX5_count cX5_count 3 (some .int)]
def wsX5_lenders : List Cond := .code yX5_lenders cX5_lenders 2 (some .int) :: ((wsX5_lenders_r1 ++ wsX5_lenders_r2) ++ wsX50)
def wsX5_copyOf : List Cond := .code yX5_copyOf cX5_copyOf 2 (some .int) :: ([.fieldLink RX5 28 "MeeplehouseModel" "copy" "[I", .methodLink RX5 127 yX5_isGroup, .instanceMethod yX5_isGroup, .selects RX5 yX5_isGroup yX5_isGroup, .initialized RX5, .code yX5_isGroup cX5_isGroup 2 (some .boolean), .fieldLink RX5 93 "MeeplehouseModel" "groups" "I", .methodLink RX5 86 yX5_isIn, .static yX5_isIn, .code yX5_isIn cX5_isIn 3 (some .boolean), .methodLink RX5 99 yX5_isFine, .instanceMethod yX5_isFine, .selects RX5 yX5_isFine yX5_isFine, .code yX5_isFine cX5_isFine 2 (some .boolean), .fieldLink RX5 79 "MeeplehouseModel" "thrown" "I"] ++ wsX50)
def wsX5_lentTo : List Cond := .code yX5_lentTo cX5_lentTo 4 (some .int) :: ([.fieldLink RX5 163 "MeeplehouseModel" "loans" "I", .fieldLink RX5 52 "MeeplehouseModel" "borrower" "[I", .fieldLink RX5 61 "MeeplehouseModel" "lent" "[I"] ++ wsX50)
def wsX5_holds : List Cond := .code yX5_holds cX5_holds 4 (some .boolean) :: ([.fieldLink RX5 70 "MeeplehouseModel" "value" "[I", .fieldLink RX5 67 "MeeplehouseModel" "test" "[I", .fieldLink RX5 16 "MeeplehouseModel" "players" "[I", .fieldLink RX5 28 "MeeplehouseModel" "copy" "[I", .methodLink RX5 134 yX5_leftOf, .instanceMethod yX5_leftOf, .selects RX5 yX5_leftOf yX5_leftOf, .initialized RX5, .code yX5_leftOf cX5_leftOf 3 (some .int), .fieldLink RX5 25 "MeeplehouseModel" "since" "[I", .fieldLink RX5 19 "MeeplehouseModel" "stay" "[I", .fieldLink RX5 96 "MeeplehouseModel" "now" "I", .methodLink RX5 179 yX5_lentTo, .instanceMethod yX5_lentTo, .selects RX5 yX5_lentTo yX5_lentTo, .code yX5_lentTo cX5_lentTo 4 (some .int), .fieldLink RX5 163 "MeeplehouseModel" "loans" "I", .fieldLink RX5 52 "MeeplehouseModel" "borrower" "[I", .fieldLink RX5 61 "MeeplehouseModel" "lent" "[I"] ++ wsX50)
def wsX5_firstThat_r1 : List Cond := [Cond.fieldLink RX5 76 "MeeplehouseModel" "rules" "[I", Cond.fieldLink RX5 64 "MeeplehouseModel" "parent" "[I", Cond.methodLink RX5 182 yX5_holds, Cond.instanceMethod yX5_holds, Cond.selects RX5 yX5_holds yX5_holds, Cond.initialized RX5, Cond.code yX5_holds cX5_holds 4 (some .boolean), Cond.fieldLink RX5 70 "MeeplehouseModel" "value" "[I", Cond.fieldLink RX5 67 "MeeplehouseModel" "test" "[I", Cond.fieldLink RX5 16 "MeeplehouseModel" "players" "[I", Cond.fieldLink RX5 28 "MeeplehouseModel" "copy" "[I", Cond.methodLink RX5 134 yX5_leftOf, Cond.instanceMethod yX5_leftOf, Cond.selects RX5 yX5_leftOf yX5_leftOf, Cond.code yX5_leftOf cX5_leftOf 3 (some .int), Cond.fieldLink RX5 25 "MeeplehouseModel" "since" "[I", Cond.fieldLink RX5 19 "MeeplehouseModel" "stay" "[I", Cond.fieldLink RX5 96 "MeeplehouseModel" "now" "I", Cond.methodLink RX5 179 yX5_lentTo, Cond.instanceMethod yX5_lentTo, Cond.selects RX5 yX5_lentTo yX5_lentTo, Cond.code yX5_lentTo cX5_lentTo 4 (some .int), Cond.fieldLink RX5 163 "MeeplehouseModel" "loans" "I", Cond.fieldLink RX5 52 "MeeplehouseModel" "borrower" "[I"]
def wsX5_firstThat_r2 : List Cond := [Cond.fieldLink RX5 61 "MeeplehouseModel" "lent" "[I"]
def wsX5_firstThat : List Cond := .code yX5_firstThat cX5_firstThat 5 (some .int) :: ((wsX5_firstThat_r1 ++ wsX5_firstThat_r2) ++ wsX50)
def wsX5_rulingFor_r1 : List Cond := [Cond.fieldLink RX5 43 "MeeplehouseModel" "title" "[I", Cond.fieldLink RX5 28 "MeeplehouseModel" "copy" "[I", Cond.fieldLink RX5 73 "MeeplehouseModel" "ruling" "[I", Cond.methodLink RX5 185 yX5_firstThat, Cond.instanceMethod yX5_firstThat, Cond.selects RX5 yX5_firstThat yX5_firstThat, Cond.initialized RX5, Cond.code yX5_firstThat cX5_firstThat 5 (some .int), Cond.fieldLink RX5 76 "MeeplehouseModel" "rules" "[I", Cond.fieldLink RX5 64 "MeeplehouseModel" "parent" "[I", Cond.methodLink RX5 182 yX5_holds, Cond.instanceMethod yX5_holds, Cond.selects RX5 yX5_holds yX5_holds, Cond.code yX5_holds cX5_holds 4 (some .boolean), Cond.fieldLink RX5 70 "MeeplehouseModel" "value" "[I", Cond.fieldLink RX5 67 "MeeplehouseModel" "test" "[I", Cond.fieldLink RX5 16 "MeeplehouseModel" "players" "[I", Cond.methodLink RX5 134 yX5_leftOf, Cond.instanceMethod yX5_leftOf, Cond.selects RX5 yX5_leftOf yX5_leftOf, Cond.code yX5_leftOf cX5_leftOf 3 (some .int), Cond.fieldLink RX5 25 "MeeplehouseModel" "since" "[I", Cond.fieldLink RX5 19 "MeeplehouseModel" "stay" "[I", Cond.fieldLink RX5 96 "MeeplehouseModel" "now" "I"]
def wsX5_rulingFor_r2 : List Cond := [Cond.methodLink RX5 179 yX5_lentTo, Cond.instanceMethod yX5_lentTo, Cond.selects RX5 yX5_lentTo yX5_lentTo, Cond.code yX5_lentTo cX5_lentTo 4 (some .int), Cond.fieldLink RX5 163 "MeeplehouseModel" "loans" "I", Cond.fieldLink RX5 52 "MeeplehouseModel" "borrower" "[I", Cond.fieldLink RX5 61 "MeeplehouseModel" "lent" "[I"]
def wsX5_rulingFor : List Cond := .code yX5_rulingFor cX5_rulingFor 5 (some .int) :: ((wsX5_rulingFor_r1 ++ wsX5_rulingFor_r2) ++ wsX50)
def wsX5_asks : List Cond := .code yX5_asks cX5_asks 3 (some .boolean) :: ([.fieldLink RX5 28 "MeeplehouseModel" "copy" "[I", .methodLink RX5 127 yX5_isGroup, .instanceMethod yX5_isGroup, .selects RX5 yX5_isGroup yX5_isGroup, .initialized RX5, .code yX5_isGroup cX5_isGroup 2 (some .boolean), .fieldLink RX5 93 "MeeplehouseModel" "groups" "I", .methodLink RX5 86 yX5_isIn, .static yX5_isIn, .code yX5_isIn cX5_isIn 3 (some .boolean), .methodLink RX5 99 yX5_isFine, .instanceMethod yX5_isFine, .selects RX5 yX5_isFine yX5_isFine, .code yX5_isFine cX5_isFine 2 (some .boolean), .fieldLink RX5 79 "MeeplehouseModel" "thrown" "I"] ++ wsX50)
def wsX5_ruling_r1 : List Cond := [Cond.methodLink RX5 189 yX5_asks, Cond.instanceMethod yX5_asks, Cond.selects RX5 yX5_asks yX5_asks, Cond.initialized RX5, Cond.code yX5_asks cX5_asks 3 (some .boolean), Cond.fieldLink RX5 28 "MeeplehouseModel" "copy" "[I", Cond.methodLink RX5 127 yX5_isGroup, Cond.instanceMethod yX5_isGroup, Cond.selects RX5 yX5_isGroup yX5_isGroup, Cond.code yX5_isGroup cX5_isGroup 2 (some .boolean), Cond.fieldLink RX5 93 "MeeplehouseModel" "groups" "I", Cond.methodLink RX5 86 yX5_isIn, Cond.static yX5_isIn, Cond.code yX5_isIn cX5_isIn 3 (some .boolean), Cond.methodLink RX5 99 yX5_isFine, Cond.instanceMethod yX5_isFine, Cond.selects RX5 yX5_isFine yX5_isFine, Cond.code yX5_isFine cX5_isFine 2 (some .boolean), Cond.fieldLink RX5 79 "MeeplehouseModel" "thrown" "I", Cond.methodLink RX5 192 yX5_rulingFor, Cond.instanceMethod yX5_rulingFor, Cond.selects RX5 yX5_rulingFor yX5_rulingFor, Cond.code yX5_rulingFor cX5_rulingFor 5 (some .int), Cond.fieldLink RX5 43 "MeeplehouseModel" "title" "[I"]
def wsX5_ruling_r2 : List Cond := [Cond.fieldLink RX5 73 "MeeplehouseModel" "ruling" "[I", Cond.methodLink RX5 185 yX5_firstThat, Cond.instanceMethod yX5_firstThat, Cond.selects RX5 yX5_firstThat yX5_firstThat, Cond.code yX5_firstThat cX5_firstThat 5 (some .int), Cond.fieldLink RX5 76 "MeeplehouseModel" "rules" "[I", Cond.fieldLink RX5 64 "MeeplehouseModel" "parent" "[I", Cond.methodLink RX5 182 yX5_holds, Cond.instanceMethod yX5_holds, Cond.selects RX5 yX5_holds yX5_holds, Cond.code yX5_holds cX5_holds 4 (some .boolean), Cond.fieldLink RX5 70 "MeeplehouseModel" "value" "[I", Cond.fieldLink RX5 67 "MeeplehouseModel" "test" "[I", Cond.fieldLink RX5 16 "MeeplehouseModel" "players" "[I", Cond.methodLink RX5 134 yX5_leftOf, Cond.instanceMethod yX5_leftOf, Cond.selects RX5 yX5_leftOf yX5_leftOf, Cond.code yX5_leftOf cX5_leftOf 3 (some .int), Cond.fieldLink RX5 25 "MeeplehouseModel" "since" "[I", Cond.fieldLink RX5 19 "MeeplehouseModel" "stay" "[I", Cond.fieldLink RX5 96 "MeeplehouseModel" "now" "I", Cond.methodLink RX5 179 yX5_lentTo, Cond.instanceMethod yX5_lentTo, Cond.selects RX5 yX5_lentTo yX5_lentTo]
def wsX5_ruling_r3 : List Cond := [Cond.code yX5_lentTo cX5_lentTo 4 (some .int), Cond.fieldLink RX5 163 "MeeplehouseModel" "loans" "I", Cond.fieldLink RX5 52 "MeeplehouseModel" "borrower" "[I", Cond.fieldLink RX5 61 "MeeplehouseModel" "lent" "[I"]
def wsX5_ruling : List Cond := .code yX5_ruling cX5_ruling 2 (some .int) :: ((wsX5_ruling_r1 ++ (wsX5_ruling_r2 ++ wsX5_ruling_r3)) ++ wsX50)
def wsX5_rulingFromBelow_r1 : List Cond := [Cond.methodLink RX5 189 yX5_asks, Cond.instanceMethod yX5_asks, Cond.selects RX5 yX5_asks yX5_asks, Cond.initialized RX5, Cond.code yX5_asks cX5_asks 3 (some .boolean), Cond.fieldLink RX5 28 "MeeplehouseModel" "copy" "[I", Cond.methodLink RX5 127 yX5_isGroup, Cond.instanceMethod yX5_isGroup, Cond.selects RX5 yX5_isGroup yX5_isGroup, Cond.code yX5_isGroup cX5_isGroup 2 (some .boolean), Cond.fieldLink RX5 93 "MeeplehouseModel" "groups" "I", Cond.methodLink RX5 86 yX5_isIn, Cond.static yX5_isIn, Cond.code yX5_isIn cX5_isIn 3 (some .boolean), Cond.methodLink RX5 99 yX5_isFine, Cond.instanceMethod yX5_isFine, Cond.selects RX5 yX5_isFine yX5_isFine, Cond.code yX5_isFine cX5_isFine 2 (some .boolean), Cond.fieldLink RX5 79 "MeeplehouseModel" "thrown" "I", Cond.methodLink RX5 192 yX5_rulingFor, Cond.instanceMethod yX5_rulingFor, Cond.selects RX5 yX5_rulingFor yX5_rulingFor, Cond.code yX5_rulingFor cX5_rulingFor 5 (some .int), Cond.fieldLink RX5 43 "MeeplehouseModel" "title" "[I"]
def wsX5_rulingFromBelow_r2 : List Cond := [Cond.fieldLink RX5 73 "MeeplehouseModel" "ruling" "[I", Cond.methodLink RX5 185 yX5_firstThat, Cond.instanceMethod yX5_firstThat, Cond.selects RX5 yX5_firstThat yX5_firstThat, Cond.code yX5_firstThat cX5_firstThat 5 (some .int), Cond.fieldLink RX5 76 "MeeplehouseModel" "rules" "[I", Cond.fieldLink RX5 64 "MeeplehouseModel" "parent" "[I", Cond.methodLink RX5 182 yX5_holds, Cond.instanceMethod yX5_holds, Cond.selects RX5 yX5_holds yX5_holds, Cond.code yX5_holds cX5_holds 4 (some .boolean), Cond.fieldLink RX5 70 "MeeplehouseModel" "value" "[I", Cond.fieldLink RX5 67 "MeeplehouseModel" "test" "[I", Cond.fieldLink RX5 16 "MeeplehouseModel" "players" "[I", Cond.methodLink RX5 134 yX5_leftOf, Cond.instanceMethod yX5_leftOf, Cond.selects RX5 yX5_leftOf yX5_leftOf, Cond.code yX5_leftOf cX5_leftOf 3 (some .int), Cond.fieldLink RX5 25 "MeeplehouseModel" "since" "[I", Cond.fieldLink RX5 19 "MeeplehouseModel" "stay" "[I", Cond.fieldLink RX5 96 "MeeplehouseModel" "now" "I", Cond.methodLink RX5 179 yX5_lentTo, Cond.instanceMethod yX5_lentTo, Cond.selects RX5 yX5_lentTo yX5_lentTo]
def wsX5_rulingFromBelow_r3 : List Cond := [Cond.code yX5_lentTo cX5_lentTo 4 (some .int), Cond.fieldLink RX5 163 "MeeplehouseModel" "loans" "I", Cond.fieldLink RX5 52 "MeeplehouseModel" "borrower" "[I", Cond.fieldLink RX5 61 "MeeplehouseModel" "lent" "[I"]
def wsX5_rulingFromBelow : List Cond := .code yX5_rulingFromBelow cX5_rulingFromBelow 2 (some .int) :: ((wsX5_rulingFromBelow_r1 ++ (wsX5_rulingFromBelow_r2 ++ wsX5_rulingFromBelow_r3)) ++ wsX50)
def wsX5_depth : List Cond := .code yX5_depth cX5_depth 6 (some .int) :: ([.fieldLink RX5 76 "MeeplehouseModel" "rules" "[I", .fieldLink RX5 64 "MeeplehouseModel" "parent" "[I", .methodLink RX5 109 yX5_isTitle, .instanceMethod yX5_isTitle, .selects RX5 yX5_isTitle yX5_isTitle, .initialized RX5, .code yX5_isTitle cX5_isTitle 2 (some .boolean), .fieldLink RX5 83 "MeeplehouseModel" "titles" "I", .methodLink RX5 86 yX5_isIn, .static yX5_isIn, .code yX5_isIn cX5_isIn 3 (some .boolean), .methodLink RX5 99 yX5_isFine, .instanceMethod yX5_isFine, .selects RX5 yX5_isFine yX5_isFine, .code yX5_isFine cX5_isFine 2 (some .boolean), .fieldLink RX5 79 "MeeplehouseModel" "thrown" "I"] ++ wsX50)
def wsJ9_max_7cf53 : List Cond := .code yJ9_max_7cf53 cJ9_max_7cf53 2 (some .int) :: ([])
def wsJ9_min_7cf53 : List Cond := .code yJ9_min_7cf53 cJ9_min_7cf53 2 (some .int) :: ([])
end
section
set_option maxRecDepth 20000 in
theorem ggX0_init_X2_init : GoodIn wsX0_init wsX2_init := goodIn_r _ [15, 16, 2, 3, 17, 18, 19, 20, 21, 22, 23] (by decide +kernel) (by decide +kernel)
set_option maxRecDepth 20000 in
theorem gX0_init_X2_init : GoodIn wsX0_init (wsX2_init) := ggX0_init_X2_init
theorem dX0_init_0 : decode cX0_init 0 = .ok (.aload_n 0, 1) := by decide +kernel
theorem dX0_init_1 : decode cX0_init 1 = .ok (.invokespecial 3, 3) := by decide +kernel
theorem dX0_init_4 : decode cX0_init 4 = .ok (.aload_n 0, 1) := by decide +kernel
theorem dX0_init_5 : decode cX0_init 5 = .ok (.new 9, 3) := by decide +kernel
theorem dX0_init_8 : decode cX0_init 8 = .ok (.dup, 1) := by decide +kernel
theorem dX0_init_9 : decode cX0_init 9 = .ok (.bipush 10, 2) := by decide +kernel
theorem dX0_init_11 : decode cX0_init 11 = .ok (.iconst 0, 1) := by decide +kernel
theorem dX0_init_12 : decode cX0_init 12 = .ok (.invokespecial 11, 3) := by decide +kernel
theorem dX0_init_15 : decode cX0_init 15 = .ok (.putfield 14, 3) := by decide +kernel
theorem dX0_init_18 : decode cX0_init 18 = .ok (.aload_n 0, 1) := by decide +kernel
theorem dX0_init_19 : decode cX0_init 19 = .ok (.new 9, 3) := by decide +kernel
theorem dX0_init_22 : decode cX0_init 22 = .ok (.dup, 1) := by decide +kernel
theorem dX0_init_23 : decode cX0_init 23 = .ok (.bipush 10, 2) := by decide +kernel
theorem dX0_init_25 : decode cX0_init 25 = .ok (.iconst (-1), 1) := by decide +kernel
theorem dX0_init_26 : decode cX0_init 26 = .ok (.invokespecial 11, 3) := by decide +kernel
theorem dX0_init_29 : decode cX0_init 29 = .ok (.putfield 20, 3) := by decide +kernel
theorem dX0_init_32 : decode cX0_init 32 = .ok (.aload_n 0, 1) := by decide +kernel
theorem dX0_init_33 : decode cX0_init 33 = .ok (.new 9, 3) := by decide +kernel
theorem dX0_init_36 : decode cX0_init 36 = .ok (.dup, 1) := by decide +kernel
theorem dX0_init_37 : decode cX0_init 37 = .ok (.bipush 30, 2) := by decide +kernel
theorem dX0_init_39 : decode cX0_init 39 = .ok (.iconst 0, 1) := by decide +kernel
theorem dX0_init_40 : decode cX0_init 40 = .ok (.invokespecial 11, 3) := by decide +kernel
theorem dX0_init_43 : decode cX0_init 43 = .ok (.putfield 23, 3) := by decide +kernel
theorem dX0_init_46 : decode cX0_init 46 = .ok (.aload_n 0, 1) := by decide +kernel
theorem dX0_init_47 : decode cX0_init 47 = .ok (.new 9, 3) := by decide +kernel
theorem dX0_init_50 : decode cX0_init 50 = .ok (.dup, 1) := by decide +kernel
theorem dX0_init_51 : decode cX0_init 51 = .ok (.bipush 30, 2) := by decide +kernel
theorem dX0_init_53 : decode cX0_init 53 = .ok (.iconst 0, 1) := by decide +kernel
theorem dX0_init_54 : decode cX0_init 54 = .ok (.invokespecial 11, 3) := by decide +kernel
theorem dX0_init_57 : decode cX0_init 57 = .ok (.putfield 26, 3) := by decide +kernel
theorem dX0_init_60 : decode cX0_init 60 = .ok (.aload_n 0, 1) := by decide +kernel
theorem dX0_init_61 : decode cX0_init 61 = .ok (.new 9, 3) := by decide +kernel
theorem dX0_init_64 : decode cX0_init 64 = .ok (.dup, 1) := by decide +kernel
theorem dX0_init_65 : decode cX0_init 65 = .ok (.bipush 30, 2) := by decide +kernel
theorem dX0_init_67 : decode cX0_init 67 = .ok (.iconst 0, 1) := by decide +kernel
theorem dX0_init_68 : decode cX0_init 68 = .ok (.invokespecial 11, 3) := by decide +kernel
theorem dX0_init_71 : decode cX0_init 71 = .ok (.putfield 29, 3) := by decide +kernel
theorem dX0_init_74 : decode cX0_init 74 = .ok (.aload_n 0, 1) := by decide +kernel
theorem dX0_init_75 : decode cX0_init 75 = .ok (.new 9, 3) := by decide +kernel
theorem dX0_init_78 : decode cX0_init 78 = .ok (.dup, 1) := by decide +kernel
theorem dX0_init_79 : decode cX0_init 79 = .ok (.bipush 30, 2) := by decide +kernel
theorem dX0_init_81 : decode cX0_init 81 = .ok (.iconst 0, 1) := by decide +kernel
theorem dX0_init_82 : decode cX0_init 82 = .ok (.invokespecial 11, 3) := by decide +kernel
theorem dX0_init_85 : decode cX0_init 85 = .ok (.putfield 32, 3) := by decide +kernel
theorem dX0_init_88 : decode cX0_init 88 = .ok (.return_, 1) := by decide +kernel
set_option maxRecDepth 20000 in
theorem ggX0_putTable_X2_put : GoodIn wsX0_putTable wsX2_put := goodIn_r _ [7, 8, 18] (by decide +kernel) (by decide +kernel)
set_option maxRecDepth 20000 in
theorem gX0_putTable_X2_put : GoodIn wsX0_putTable (wsV RX0 39 RX2 yX2_put wsX2_put) := goodIn_app (goodIn_of _ (by decide +kernel)) ggX0_putTable_X2_put
theorem dX0_putTable_0 : decode cX0_putTable 0 = .ok (.aload_n 0, 1) := by decide +kernel
theorem dX0_putTable_1 : decode cX0_putTable 1 = .ok (.getfield 14, 3) := by decide +kernel
theorem dX0_putTable_4 : decode cX0_putTable 4 = .ok (.aload_n 0, 1) := by decide +kernel
theorem dX0_putTable_5 : decode cX0_putTable 5 = .ok (.getfield 35, 3) := by decide +kernel
theorem dX0_putTable_8 : decode cX0_putTable 8 = .ok (.iload_n 1, 1) := by decide +kernel
theorem dX0_putTable_9 : decode cX0_putTable 9 = .ok (.invokevirtual 39, 3) := by decide +kernel
theorem dX0_putTable_12 : decode cX0_putTable 12 = .ok (.aload_n 0, 1) := by decide +kernel
theorem dX0_putTable_13 : decode cX0_putTable 13 = .ok (.dup, 1) := by decide +kernel
theorem dX0_putTable_14 : decode cX0_putTable 14 = .ok (.getfield 35, 3) := by decide +kernel
theorem dX0_putTable_17 : decode cX0_putTable 17 = .ok (.iconst 1, 1) := by decide +kernel
theorem dX0_putTable_18 : decode cX0_putTable 18 = .ok (.iadd, 1) := by decide +kernel
theorem dX0_putTable_19 : decode cX0_putTable 19 = .ok (.putfield 35, 3) := by decide +kernel
theorem dX0_putTable_22 : decode cX0_putTable 22 = .ok (.aload_n 0, 1) := by decide +kernel
theorem dX0_putTable_23 : decode cX0_putTable 23 = .ok (.getfield 35, 3) := by decide +kernel
theorem dX0_putTable_26 : decode cX0_putTable 26 = .ok (.iconst 1, 1) := by decide +kernel
theorem dX0_putTable_27 : decode cX0_putTable 27 = .ok (.isub, 1) := by decide +kernel
theorem dX0_putTable_28 : decode cX0_putTable 28 = .ok (.ireturn, 1) := by decide +kernel
set_option maxRecDepth 20000 in
theorem ggX0_welcome_X2_put : GoodIn wsX0_welcome wsX2_put := goodIn_r _ [8, 9, 56] (by decide +kernel) (by decide +kernel)
set_option maxRecDepth 20000 in
theorem gX0_welcome_X2_put : GoodIn wsX0_welcome (wsV RX0 39 RX2 yX2_put wsX2_put) := goodIn_app (goodIn_of _ (by decide +kernel)) ggX0_welcome_X2_put
set_option maxRecDepth 20000 in
theorem ggX0_welcome_X0_seatIfPossible : GoodIn wsX0_welcome wsX0_seatIfPossible := goodIn_r _ [14, 2, 15, 16, 17, 18, 7, 19, 9, 20, 21, 22, 13, 23, 24, 25, 26, 27, 28, 29, 30, 31, 32, 33, 34, 35, 36, 37, 38, 39, 40, 41, 42, 43, 44, 45, 46, 3, 4, 5, 6, 8, 47, 48, 49, 50, 51, 52, 53, 54, 55, 56] (by decide +kernel) (by decide +kernel)
set_option maxRecDepth 20000 in
theorem gX0_welcome_X0_seatIfPossible : GoodIn wsX0_welcome (wsV RX0 45 RX0 yX0_seatIfPossible wsX0_seatIfPossible) := goodIn_app (goodIn_of _ (by decide +kernel)) ggX0_welcome_X0_seatIfPossible
theorem dX0_welcome_0 : decode cX0_welcome 0 = .ok (.aload_n 0, 1) := by decide +kernel
theorem dX0_welcome_1 : decode cX0_welcome 1 = .ok (.getfield 42, 3) := by decide +kernel
theorem dX0_welcome_4 : decode cX0_welcome 4 = .ok (.istore_n 3, 1) := by decide +kernel
theorem dX0_welcome_5 : decode cX0_welcome 5 = .ok (.aload_n 0, 1) := by decide +kernel
theorem dX0_welcome_6 : decode cX0_welcome 6 = .ok (.dup, 1) := by decide +kernel
theorem dX0_welcome_7 : decode cX0_welcome 7 = .ok (.getfield 42, 3) := by decide +kernel
theorem dX0_welcome_10 : decode cX0_welcome 10 = .ok (.iconst 1, 1) := by decide +kernel
theorem dX0_welcome_11 : decode cX0_welcome 11 = .ok (.iadd, 1) := by decide +kernel
theorem dX0_welcome_12 : decode cX0_welcome 12 = .ok (.putfield 42, 3) := by decide +kernel
theorem dX0_welcome_15 : decode cX0_welcome 15 = .ok (.aload_n 0, 1) := by decide +kernel
theorem dX0_welcome_16 : decode cX0_welcome 16 = .ok (.getfield 23, 3) := by decide +kernel
theorem dX0_welcome_19 : decode cX0_welcome 19 = .ok (.iload_n 3, 1) := by decide +kernel
theorem dX0_welcome_20 : decode cX0_welcome 20 = .ok (.iload_n 1, 1) := by decide +kernel
theorem dX0_welcome_21 : decode cX0_welcome 21 = .ok (.invokevirtual 39, 3) := by decide +kernel
theorem dX0_welcome_24 : decode cX0_welcome 24 = .ok (.aload_n 0, 1) := by decide +kernel
theorem dX0_welcome_25 : decode cX0_welcome 25 = .ok (.getfield 26, 3) := by decide +kernel
theorem dX0_welcome_28 : decode cX0_welcome 28 = .ok (.iload_n 3, 1) := by decide +kernel
theorem dX0_welcome_29 : decode cX0_welcome 29 = .ok (.iload_n 2, 1) := by decide +kernel
theorem dX0_welcome_30 : decode cX0_welcome 30 = .ok (.invokevirtual 39, 3) := by decide +kernel
theorem dX0_welcome_33 : decode cX0_welcome 33 = .ok (.aload_n 0, 1) := by decide +kernel
theorem dX0_welcome_34 : decode cX0_welcome 34 = .ok (.iload_n 3, 1) := by decide +kernel
theorem dX0_welcome_35 : decode cX0_welcome 35 = .ok (.invokevirtual 45, 3) := by decide +kernel
theorem dX0_welcome_38 : decode cX0_welcome 38 = .ok (.pop, 1) := by decide +kernel
theorem dX0_welcome_39 : decode cX0_welcome 39 = .ok (.iload_n 3, 1) := by decide +kernel
theorem dX0_welcome_40 : decode cX0_welcome 40 = .ok (.ireturn, 1) := by decide +kernel
set_option maxRecDepth 20000 in
theorem ggX0_dismiss_X2_put : GoodIn wsX0_dismiss wsX2_put := goodIn_r _ [8, 9, 60] (by decide +kernel) (by decide +kernel)
set_option maxRecDepth 20000 in
theorem gX0_dismiss_X2_put : GoodIn wsX0_dismiss (wsV RX0 39 RX2 yX2_put wsX2_put) := goodIn_app (goodIn_of _ (by decide +kernel)) ggX0_dismiss_X2_put
set_option maxRecDepth 20000 in
theorem ggX0_dismiss_X2_at : GoodIn wsX0_dismiss wsX2_at := goodIn_r _ [13, 9, 60] (by decide +kernel) (by decide +kernel)
set_option maxRecDepth 20000 in
theorem gX0_dismiss_X2_at : GoodIn wsX0_dismiss (wsV RX0 49 RX2 yX2_at wsX2_at) := goodIn_app (goodIn_of _ (by decide +kernel)) ggX0_dismiss_X2_at
set_option maxRecDepth 20000 in
theorem ggX0_dismiss_X0_seatWaiting : GoodIn wsX0_dismiss wsX0_seatWaiting := goodIn_r _ [18, 19, 1, 10, 11, 12, 7, 13, 9, 20, 21, 22, 17, 23, 24, 2, 25, 26, 27, 28, 29, 30, 31, 32, 3, 33, 34, 35, 36, 37, 38, 39, 40, 41, 42, 43, 44, 45, 46, 47, 48, 49, 50, 4, 5, 6, 8, 51, 52, 53, 54, 55, 56, 57, 58, 59, 60] (by decide +kernel) (by decide +kernel)
set_option maxRecDepth 20000 in
theorem gX0_dismiss_X0_seatWaiting : GoodIn wsX0_dismiss (wsV RX0 53 RX0 yX0_seatWaiting wsX0_seatWaiting) := goodIn_app (goodIn_of _ (by decide +kernel)) ggX0_dismiss_X0_seatWaiting
theorem dX0_dismiss_0 : decode cX0_dismiss 0 = .ok (.aload_n 0, 1) := by decide +kernel
theorem dX0_dismiss_1 : decode cX0_dismiss 1 = .ok (.getfield 32, 3) := by decide +kernel
theorem dX0_dismiss_4 : decode cX0_dismiss 4 = .ok (.iload_n 1, 1) := by decide +kernel
theorem dX0_dismiss_5 : decode cX0_dismiss 5 = .ok (.iconst 2, 1) := by decide +kernel
theorem dX0_dismiss_6 : decode cX0_dismiss 6 = .ok (.invokevirtual 39, 3) := by decide +kernel
theorem dX0_dismiss_9 : decode cX0_dismiss 9 = .ok (.iconst 0, 1) := by decide +kernel
theorem dX0_dismiss_10 : decode cX0_dismiss 10 = .ok (.istore_n 2, 1) := by decide +kernel
theorem dX0_dismiss_11 : decode cX0_dismiss 11 = .ok (.iload_n 2, 1) := by decide +kernel
theorem dX0_dismiss_12 : decode cX0_dismiss 12 = .ok (.aload_n 0, 1) := by decide +kernel
theorem dX0_dismiss_13 : decode cX0_dismiss 13 = .ok (.getfield 35, 3) := by decide +kernel
theorem dX0_dismiss_16 : decode cX0_dismiss 16 = .ok (.if_icmp .ge 30, 3) := by decide +kernel
theorem dX0_dismiss_19 : decode cX0_dismiss 19 = .ok (.aload_n 0, 1) := by decide +kernel
theorem dX0_dismiss_20 : decode cX0_dismiss 20 = .ok (.getfield 20, 3) := by decide +kernel
theorem dX0_dismiss_23 : decode cX0_dismiss 23 = .ok (.iload_n 2, 1) := by decide +kernel
theorem dX0_dismiss_24 : decode cX0_dismiss 24 = .ok (.invokevirtual 49, 3) := by decide +kernel
theorem dX0_dismiss_27 : decode cX0_dismiss 27 = .ok (.iload_n 1, 1) := by decide +kernel
theorem dX0_dismiss_28 : decode cX0_dismiss 28 = .ok (.if_icmp .ne 12, 3) := by decide +kernel
theorem dX0_dismiss_31 : decode cX0_dismiss 31 = .ok (.aload_n 0, 1) := by decide +kernel
theorem dX0_dismiss_32 : decode cX0_dismiss 32 = .ok (.getfield 20, 3) := by decide +kernel
theorem dX0_dismiss_35 : decode cX0_dismiss 35 = .ok (.iload_n 2, 1) := by decide +kernel
theorem dX0_dismiss_36 : decode cX0_dismiss 36 = .ok (.iconst (-1), 1) := by decide +kernel
theorem dX0_dismiss_37 : decode cX0_dismiss 37 = .ok (.invokevirtual 39, 3) := by decide +kernel
theorem dX0_dismiss_40 : decode cX0_dismiss 40 = .ok (.iinc 2 1, 3) := by decide +kernel
theorem dX0_dismiss_43 : decode cX0_dismiss 43 = .ok (.goto (-32), 3) := by decide +kernel
theorem dX0_dismiss_46 : decode cX0_dismiss 46 = .ok (.aload_n 0, 1) := by decide +kernel
theorem dX0_dismiss_47 : decode cX0_dismiss 47 = .ok (.invokevirtual 53, 3) := by decide +kernel
theorem dX0_dismiss_50 : decode cX0_dismiss 50 = .ok (.ireturn, 1) := by decide +kernel
set_option maxRecDepth 20000 in
theorem ggX0_seatWaiting_X2_at : GoodIn wsX0_seatWaiting wsX2_at := goodIn_r _ [7, 8, 56] (by decide +kernel) (by decide +kernel)
set_option maxRecDepth 20000 in
theorem gX0_seatWaiting_X2_at : GoodIn wsX0_seatWaiting (wsV RX0 49 RX2 yX2_at wsX2_at) := goodIn_app (goodIn_of _ (by decide +kernel)) ggX0_seatWaiting_X2_at
set_option maxRecDepth 20000 in
theorem ggX0_seatWaiting_X0_seatIfPossible : GoodIn wsX0_seatWaiting wsX0_seatIfPossible := goodIn_r _ [13, 14, 15, 3, 4, 5, 6, 7, 8, 16, 17, 18, 12, 19, 20, 21, 22, 23, 24, 25, 26, 27, 28, 29, 30, 31, 32, 33, 34, 35, 36, 37, 38, 39, 2, 40, 41, 42, 43, 44, 45, 46, 47, 48, 49, 50, 51, 52, 53, 54, 55, 56] (by decide +kernel) (by decide +kernel)
set_option maxRecDepth 20000 in
theorem gX0_seatWaiting_X0_seatIfPossible : GoodIn wsX0_seatWaiting (wsV RX0 45 RX0 yX0_seatIfPossible wsX0_seatIfPossible) := goodIn_app (goodIn_of _ (by decide +kernel)) ggX0_seatWaiting_X0_seatIfPossible
theorem dX0_seatWaiting_0 : decode cX0_seatWaiting 0 = .ok (.iconst 0, 1) := by decide +kernel
theorem dX0_seatWaiting_1 : decode cX0_seatWaiting 1 = .ok (.istore_n 1, 1) := by decide +kernel
theorem dX0_seatWaiting_2 : decode cX0_seatWaiting 2 = .ok (.iconst 0, 1) := by decide +kernel
theorem dX0_seatWaiting_3 : decode cX0_seatWaiting 3 = .ok (.istore_n 2, 1) := by decide +kernel
theorem dX0_seatWaiting_4 : decode cX0_seatWaiting 4 = .ok (.iload_n 2, 1) := by decide +kernel
theorem dX0_seatWaiting_5 : decode cX0_seatWaiting 5 = .ok (.aload_n 0, 1) := by decide +kernel
theorem dX0_seatWaiting_6 : decode cX0_seatWaiting 6 = .ok (.getfield 42, 3) := by decide +kernel
theorem dX0_seatWaiting_9 : decode cX0_seatWaiting 9 = .ok (.if_icmp .ge 31, 3) := by decide +kernel
theorem dX0_seatWaiting_12 : decode cX0_seatWaiting 12 = .ok (.aload_n 0, 1) := by decide +kernel
theorem dX0_seatWaiting_13 : decode cX0_seatWaiting 13 = .ok (.getfield 32, 3) := by decide +kernel
theorem dX0_seatWaiting_16 : decode cX0_seatWaiting 16 = .ok (.iload_n 2, 1) := by decide +kernel
theorem dX0_seatWaiting_17 : decode cX0_seatWaiting 17 = .ok (.invokevirtual 49, 3) := by decide +kernel
theorem dX0_seatWaiting_20 : decode cX0_seatWaiting 20 = .ok (.ifCond .ne 14, 3) := by decide +kernel
theorem dX0_seatWaiting_23 : decode cX0_seatWaiting 23 = .ok (.aload_n 0, 1) := by decide +kernel
theorem dX0_seatWaiting_24 : decode cX0_seatWaiting 24 = .ok (.iload_n 2, 1) := by decide +kernel
theorem dX0_seatWaiting_25 : decode cX0_seatWaiting 25 = .ok (.invokevirtual 45, 3) := by decide +kernel
theorem dX0_seatWaiting_28 : decode cX0_seatWaiting 28 = .ok (.ifCond .eq 6, 3) := by decide +kernel
theorem dX0_seatWaiting_31 : decode cX0_seatWaiting 31 = .ok (.iinc 1 1, 3) := by decide +kernel
theorem dX0_seatWaiting_34 : decode cX0_seatWaiting 34 = .ok (.iinc 2 1, 3) := by decide +kernel
theorem dX0_seatWaiting_37 : decode cX0_seatWaiting 37 = .ok (.goto (-33), 3) := by decide +kernel
theorem dX0_seatWaiting_40 : decode cX0_seatWaiting 40 = .ok (.iload_n 1, 1) := by decide +kernel
theorem dX0_seatWaiting_41 : decode cX0_seatWaiting 41 = .ok (.ireturn, 1) := by decide +kernel
set_option maxRecDepth 20000 in
theorem ggX0_seatIfPossible_X2_at : GoodIn wsX0_seatIfPossible wsX2_at := goodIn_r _ [7, 8, 51] (by decide +kernel) (by decide +kernel)
set_option maxRecDepth 20000 in
theorem gX0_seatIfPossible_X2_at : GoodIn wsX0_seatIfPossible (wsV RX0 49 RX2 yX2_at wsX2_at) := goodIn_app (goodIn_of _ (by decide +kernel)) ggX0_seatIfPossible_X2_at
set_option maxRecDepth 20000 in
theorem ggX0_seatIfPossible_X0_leastWaste : GoodIn wsX0_seatIfPossible wsX0_leastWaste := goodIn_r _ [13, 2, 14, 15, 16, 12, 17, 18, 19, 3, 4, 5, 6, 7, 8, 20, 21, 22, 23, 24, 25, 26, 27, 28, 29, 42, 43, 44, 45, 46, 47, 48, 49, 50, 51] (by decide +kernel) (by decide +kernel)
set_option maxRecDepth 20000 in
theorem gX0_seatIfPossible_X0_leastWaste : GoodIn wsX0_seatIfPossible (wsV RX0 57 RX0 yX0_leastWaste wsX0_leastWaste) := goodIn_app (goodIn_of _ (by decide +kernel)) ggX0_seatIfPossible_X0_leastWaste
set_option maxRecDepth 20000 in
theorem ggX0_seatIfPossible_X0_wasteAt : GoodIn wsX0_seatIfPossible wsX0_wasteAt := goodIn_r _ [17, 18, 19, 3, 4, 5, 6, 7, 8, 42, 43, 44, 45, 46, 47, 48, 49, 50, 51] (by decide +kernel) (by decide +kernel)
set_option maxRecDepth 20000 in
theorem gX0_seatIfPossible_X0_wasteAt : GoodIn wsX0_seatIfPossible (wsV RX0 60 RX0 yX0_wasteAt wsX0_wasteAt) := goodIn_app (goodIn_of _ (by decide +kernel)) ggX0_seatIfPossible_X0_wasteAt
set_option maxRecDepth 20000 in
theorem ggX0_seatIfPossible_X0_seat : GoodIn wsX0_seatIfPossible wsX0_seat := goodIn_r _ [33, 18, 34, 35, 36, 37, 38, 39, 40, 6, 41, 8, 3, 4, 5, 7, 42, 43, 44, 45, 46, 47, 48, 49, 50, 51] (by decide +kernel) (by decide +kernel)
set_option maxRecDepth 20000 in
theorem gX0_seatIfPossible_X0_seat : GoodIn wsX0_seatIfPossible (wsV RX0 64 RX0 yX0_seat wsX0_seat) := goodIn_app (goodIn_of _ (by decide +kernel)) ggX0_seatIfPossible_X0_seat
theorem dX0_seatIfPossible_0 : decode cX0_seatIfPossible 0 = .ok (.aload_n 0, 1) := by decide +kernel
theorem dX0_seatIfPossible_1 : decode cX0_seatIfPossible 1 = .ok (.aload_n 0, 1) := by decide +kernel
theorem dX0_seatIfPossible_2 : decode cX0_seatIfPossible 2 = .ok (.getfield 23, 3) := by decide +kernel
theorem dX0_seatIfPossible_5 : decode cX0_seatIfPossible 5 = .ok (.iload_n 1, 1) := by decide +kernel
theorem dX0_seatIfPossible_6 : decode cX0_seatIfPossible 6 = .ok (.invokevirtual 49, 3) := by decide +kernel
theorem dX0_seatIfPossible_9 : decode cX0_seatIfPossible 9 = .ok (.invokevirtual 57, 3) := by decide +kernel
theorem dX0_seatIfPossible_12 : decode cX0_seatIfPossible 12 = .ok (.istore_n 2, 1) := by decide +kernel
theorem dX0_seatIfPossible_13 : decode cX0_seatIfPossible 13 = .ok (.iload_n 2, 1) := by decide +kernel
theorem dX0_seatIfPossible_14 : decode cX0_seatIfPossible 14 = .ok (.iconst (-1), 1) := by decide +kernel
theorem dX0_seatIfPossible_15 : decode cX0_seatIfPossible 15 = .ok (.if_icmp .ne 5, 3) := by decide +kernel
theorem dX0_seatIfPossible_18 : decode cX0_seatIfPossible 18 = .ok (.iconst 0, 1) := by decide +kernel
theorem dX0_seatIfPossible_19 : decode cX0_seatIfPossible 19 = .ok (.ireturn, 1) := by decide +kernel
theorem dX0_seatIfPossible_20 : decode cX0_seatIfPossible 20 = .ok (.iconst 1, 1) := by decide +kernel
theorem dX0_seatIfPossible_21 : decode cX0_seatIfPossible 21 = .ok (.istore_n 3, 1) := by decide +kernel
theorem dX0_seatIfPossible_22 : decode cX0_seatIfPossible 22 = .ok (.iload_n 3, 1) := by decide +kernel
theorem dX0_seatIfPossible_23 : decode cX0_seatIfPossible 23 = .ok (.aload_n 0, 1) := by decide +kernel
theorem dX0_seatIfPossible_24 : decode cX0_seatIfPossible 24 = .ok (.getfield 35, 3) := by decide +kernel
theorem dX0_seatIfPossible_27 : decode cX0_seatIfPossible 27 = .ok (.if_icmp .gt 58, 3) := by decide +kernel
theorem dX0_seatIfPossible_30 : decode cX0_seatIfPossible 30 = .ok (.iconst 0, 1) := by decide +kernel
theorem dX0_seatIfPossible_31 : decode cX0_seatIfPossible 31 = .ok (.istore 4, 2) := by decide +kernel
theorem dX0_seatIfPossible_33 : decode cX0_seatIfPossible 33 = .ok (.iload 4, 2) := by decide +kernel
theorem dX0_seatIfPossible_35 : decode cX0_seatIfPossible 35 = .ok (.iload_n 3, 1) := by decide +kernel
theorem dX0_seatIfPossible_36 : decode cX0_seatIfPossible 36 = .ok (.iadd, 1) := by decide +kernel
theorem dX0_seatIfPossible_37 : decode cX0_seatIfPossible 37 = .ok (.aload_n 0, 1) := by decide +kernel
theorem dX0_seatIfPossible_38 : decode cX0_seatIfPossible 38 = .ok (.getfield 35, 3) := by decide +kernel
theorem dX0_seatIfPossible_41 : decode cX0_seatIfPossible 41 = .ok (.if_icmp .gt 38, 3) := by decide +kernel
theorem dX0_seatIfPossible_44 : decode cX0_seatIfPossible 44 = .ok (.aload_n 0, 1) := by decide +kernel
theorem dX0_seatIfPossible_45 : decode cX0_seatIfPossible 45 = .ok (.iload 4, 2) := by decide +kernel
theorem dX0_seatIfPossible_47 : decode cX0_seatIfPossible 47 = .ok (.iload_n 3, 1) := by decide +kernel
theorem dX0_seatIfPossible_48 : decode cX0_seatIfPossible 48 = .ok (.aload_n 0, 1) := by decide +kernel
theorem dX0_seatIfPossible_49 : decode cX0_seatIfPossible 49 = .ok (.getfield 23, 3) := by decide +kernel
theorem dX0_seatIfPossible_52 : decode cX0_seatIfPossible 52 = .ok (.iload_n 1, 1) := by decide +kernel
theorem dX0_seatIfPossible_53 : decode cX0_seatIfPossible 53 = .ok (.invokevirtual 49, 3) := by decide +kernel
theorem dX0_seatIfPossible_56 : decode cX0_seatIfPossible 56 = .ok (.invokevirtual 60, 3) := by decide +kernel
theorem dX0_seatIfPossible_59 : decode cX0_seatIfPossible 59 = .ok (.iload_n 2, 1) := by decide +kernel
theorem dX0_seatIfPossible_60 : decode cX0_seatIfPossible 60 = .ok (.if_icmp .ne 13, 3) := by decide +kernel
theorem dX0_seatIfPossible_63 : decode cX0_seatIfPossible 63 = .ok (.aload_n 0, 1) := by decide +kernel
theorem dX0_seatIfPossible_64 : decode cX0_seatIfPossible 64 = .ok (.iload_n 1, 1) := by decide +kernel
theorem dX0_seatIfPossible_65 : decode cX0_seatIfPossible 65 = .ok (.iload 4, 2) := by decide +kernel
theorem dX0_seatIfPossible_67 : decode cX0_seatIfPossible 67 = .ok (.iload_n 3, 1) := by decide +kernel
theorem dX0_seatIfPossible_68 : decode cX0_seatIfPossible 68 = .ok (.invokevirtual 64, 3) := by decide +kernel
theorem dX0_seatIfPossible_71 : decode cX0_seatIfPossible 71 = .ok (.iconst 1, 1) := by decide +kernel
theorem dX0_seatIfPossible_72 : decode cX0_seatIfPossible 72 = .ok (.ireturn, 1) := by decide +kernel
theorem dX0_seatIfPossible_73 : decode cX0_seatIfPossible 73 = .ok (.iinc 4 1, 3) := by decide +kernel
theorem dX0_seatIfPossible_76 : decode cX0_seatIfPossible 76 = .ok (.goto (-43), 3) := by decide +kernel
theorem dX0_seatIfPossible_79 : decode cX0_seatIfPossible 79 = .ok (.iinc 3 1, 3) := by decide +kernel
theorem dX0_seatIfPossible_82 : decode cX0_seatIfPossible 82 = .ok (.goto (-60), 3) := by decide +kernel
theorem dX0_seatIfPossible_85 : decode cX0_seatIfPossible 85 = .ok (.iconst 0, 1) := by decide +kernel
theorem dX0_seatIfPossible_86 : decode cX0_seatIfPossible 86 = .ok (.ireturn, 1) := by decide +kernel
set_option maxRecDepth 20000 in
theorem ggX0_seat_X2_put : GoodIn wsX0_seat wsX2_put := goodIn_r _ [10, 11, 25] (by decide +kernel) (by decide +kernel)
set_option maxRecDepth 20000 in
theorem gX0_seat_X2_put : GoodIn wsX0_seat (wsV RX0 39 RX2 yX2_put wsX2_put) := goodIn_app (goodIn_of _ (by decide +kernel)) ggX0_seat_X2_put
set_option maxRecDepth 20000 in
theorem ggX0_seat_X2_at : GoodIn wsX0_seat wsX2_at := goodIn_r _ [15, 11, 25] (by decide +kernel) (by decide +kernel)
set_option maxRecDepth 20000 in
theorem gX0_seat_X2_at : GoodIn wsX0_seat (wsV RX0 49 RX2 yX2_at wsX2_at) := goodIn_app (goodIn_of _ (by decide +kernel)) ggX0_seat_X2_at
theorem dX0_seat_0 : decode cX0_seat 0 = .ok (.iload_n 2, 1) := by decide +kernel
theorem dX0_seat_1 : decode cX0_seat 1 = .ok (.istore 4, 2) := by decide +kernel
theorem dX0_seat_3 : decode cX0_seat 3 = .ok (.iload 4, 2) := by decide +kernel
theorem dX0_seat_5 : decode cX0_seat 5 = .ok (.iload_n 2, 1) := by decide +kernel
theorem dX0_seat_6 : decode cX0_seat 6 = .ok (.iload_n 3, 1) := by decide +kernel
theorem dX0_seat_7 : decode cX0_seat 7 = .ok (.iadd, 1) := by decide +kernel
theorem dX0_seat_8 : decode cX0_seat 8 = .ok (.if_icmp .ge 19, 3) := by decide +kernel
theorem dX0_seat_11 : decode cX0_seat 11 = .ok (.aload_n 0, 1) := by decide +kernel
theorem dX0_seat_12 : decode cX0_seat 12 = .ok (.getfield 20, 3) := by decide +kernel
theorem dX0_seat_15 : decode cX0_seat 15 = .ok (.iload 4, 2) := by decide +kernel
theorem dX0_seat_17 : decode cX0_seat 17 = .ok (.iload_n 1, 1) := by decide +kernel
theorem dX0_seat_18 : decode cX0_seat 18 = .ok (.invokevirtual 39, 3) := by decide +kernel
theorem dX0_seat_21 : decode cX0_seat 21 = .ok (.iinc 4 1, 3) := by decide +kernel
theorem dX0_seat_24 : decode cX0_seat 24 = .ok (.goto (-21), 3) := by decide +kernel
theorem dX0_seat_27 : decode cX0_seat 27 = .ok (.aload_n 0, 1) := by decide +kernel
theorem dX0_seat_28 : decode cX0_seat 28 = .ok (.getfield 32, 3) := by decide +kernel
theorem dX0_seat_31 : decode cX0_seat 31 = .ok (.iload_n 1, 1) := by decide +kernel
theorem dX0_seat_32 : decode cX0_seat 32 = .ok (.iconst 1, 1) := by decide +kernel
theorem dX0_seat_33 : decode cX0_seat 33 = .ok (.invokevirtual 39, 3) := by decide +kernel
theorem dX0_seat_36 : decode cX0_seat 36 = .ok (.aload_n 0, 1) := by decide +kernel
theorem dX0_seat_37 : decode cX0_seat 37 = .ok (.getfield 29, 3) := by decide +kernel
theorem dX0_seat_40 : decode cX0_seat 40 = .ok (.iload_n 1, 1) := by decide +kernel
theorem dX0_seat_41 : decode cX0_seat 41 = .ok (.aload_n 0, 1) := by decide +kernel
theorem dX0_seat_42 : decode cX0_seat 42 = .ok (.getfield 68, 3) := by decide +kernel
theorem dX0_seat_45 : decode cX0_seat 45 = .ok (.aload_n 0, 1) := by decide +kernel
theorem dX0_seat_46 : decode cX0_seat 46 = .ok (.getfield 26, 3) := by decide +kernel
theorem dX0_seat_49 : decode cX0_seat 49 = .ok (.iload_n 1, 1) := by decide +kernel
theorem dX0_seat_50 : decode cX0_seat 50 = .ok (.invokevirtual 49, 3) := by decide +kernel
theorem dX0_seat_53 : decode cX0_seat 53 = .ok (.iadd, 1) := by decide +kernel
theorem dX0_seat_54 : decode cX0_seat 54 = .ok (.invokevirtual 39, 3) := by decide +kernel
theorem dX0_seat_57 : decode cX0_seat 57 = .ok (.return_, 1) := by decide +kernel
set_option maxRecDepth 20000 in
theorem ggX0_leastWaste_X0_wasteAt : GoodIn wsX0_leastWaste wsX0_wasteAt := goodIn_r _ [6, 7, 8, 9, 10, 11, 12, 13, 14, 25, 26, 27, 28, 29, 30, 31, 32, 33, 34] (by decide +kernel) (by decide +kernel)
set_option maxRecDepth 20000 in
theorem gX0_leastWaste_X0_wasteAt : GoodIn wsX0_leastWaste (wsV RX0 60 RX0 yX0_wasteAt wsX0_wasteAt) := goodIn_app (goodIn_of _ (by decide +kernel)) ggX0_leastWaste_X0_wasteAt
set_option maxRecDepth 20000 in
theorem ggX0_leastWaste_X0_lesser : GoodIn wsX0_leastWaste wsX0_lesser := goodIn_r _ [17, 18, 19, 20, 21, 22, 23, 24] (by decide +kernel) (by decide +kernel)
set_option maxRecDepth 20000 in
theorem gX0_leastWaste_X0_lesser : GoodIn wsX0_leastWaste (va_wsS RX0 71 yX0_lesser wsX0_lesser) := goodIn_app (goodIn_of _ (by decide +kernel)) ggX0_leastWaste_X0_lesser
theorem dX0_leastWaste_0 : decode cX0_leastWaste 0 = .ok (.iconst (-1), 1) := by decide +kernel
theorem dX0_leastWaste_1 : decode cX0_leastWaste 1 = .ok (.istore_n 2, 1) := by decide +kernel
theorem dX0_leastWaste_2 : decode cX0_leastWaste 2 = .ok (.iconst 1, 1) := by decide +kernel
theorem dX0_leastWaste_3 : decode cX0_leastWaste 3 = .ok (.istore_n 3, 1) := by decide +kernel
theorem dX0_leastWaste_4 : decode cX0_leastWaste 4 = .ok (.iload_n 3, 1) := by decide +kernel
theorem dX0_leastWaste_5 : decode cX0_leastWaste 5 = .ok (.aload_n 0, 1) := by decide +kernel
theorem dX0_leastWaste_6 : decode cX0_leastWaste 6 = .ok (.getfield 35, 3) := by decide +kernel
theorem dX0_leastWaste_9 : decode cX0_leastWaste 9 = .ok (.if_icmp .gt 42, 3) := by decide +kernel
theorem dX0_leastWaste_12 : decode cX0_leastWaste 12 = .ok (.iconst 0, 1) := by decide +kernel
theorem dX0_leastWaste_13 : decode cX0_leastWaste 13 = .ok (.istore 4, 2) := by decide +kernel
theorem dX0_leastWaste_15 : decode cX0_leastWaste 15 = .ok (.iload 4, 2) := by decide +kernel
theorem dX0_leastWaste_17 : decode cX0_leastWaste 17 = .ok (.iload_n 3, 1) := by decide +kernel
theorem dX0_leastWaste_18 : decode cX0_leastWaste 18 = .ok (.iadd, 1) := by decide +kernel
theorem dX0_leastWaste_19 : decode cX0_leastWaste 19 = .ok (.aload_n 0, 1) := by decide +kernel
theorem dX0_leastWaste_20 : decode cX0_leastWaste 20 = .ok (.getfield 35, 3) := by decide +kernel
theorem dX0_leastWaste_23 : decode cX0_leastWaste 23 = .ok (.if_icmp .gt 22, 3) := by decide +kernel
theorem dX0_leastWaste_26 : decode cX0_leastWaste 26 = .ok (.iload_n 2, 1) := by decide +kernel
theorem dX0_leastWaste_27 : decode cX0_leastWaste 27 = .ok (.aload_n 0, 1) := by decide +kernel
theorem dX0_leastWaste_28 : decode cX0_leastWaste 28 = .ok (.iload 4, 2) := by decide +kernel
theorem dX0_leastWaste_30 : decode cX0_leastWaste 30 = .ok (.iload_n 3, 1) := by decide +kernel
theorem dX0_leastWaste_31 : decode cX0_leastWaste 31 = .ok (.iload_n 1, 1) := by decide +kernel
theorem dX0_leastWaste_32 : decode cX0_leastWaste 32 = .ok (.invokevirtual 60, 3) := by decide +kernel
theorem dX0_leastWaste_35 : decode cX0_leastWaste 35 = .ok (.invokestatic 71, 3) := by decide +kernel
theorem dX0_leastWaste_38 : decode cX0_leastWaste 38 = .ok (.istore_n 2, 1) := by decide +kernel
theorem dX0_leastWaste_39 : decode cX0_leastWaste 39 = .ok (.iinc 4 1, 3) := by decide +kernel
theorem dX0_leastWaste_42 : decode cX0_leastWaste 42 = .ok (.goto (-27), 3) := by decide +kernel
theorem dX0_leastWaste_45 : decode cX0_leastWaste 45 = .ok (.iinc 3 1, 3) := by decide +kernel
theorem dX0_leastWaste_48 : decode cX0_leastWaste 48 = .ok (.goto (-44), 3) := by decide +kernel
theorem dX0_leastWaste_51 : decode cX0_leastWaste 51 = .ok (.iload_n 2, 1) := by decide +kernel
theorem dX0_leastWaste_52 : decode cX0_leastWaste 52 = .ok (.ireturn, 1) := by decide +kernel
set_option maxRecDepth 20000 in
theorem ggX0_wasteAt_X2_at : GoodIn wsX0_wasteAt wsX2_at := goodIn_r _ [7, 8, 18] (by decide +kernel) (by decide +kernel)
set_option maxRecDepth 20000 in
theorem gX0_wasteAt_X2_at : GoodIn wsX0_wasteAt (wsV RX0 49 RX2 yX2_at wsX2_at) := goodIn_app (goodIn_of _ (by decide +kernel)) ggX0_wasteAt_X2_at
theorem dX0_wasteAt_0 : decode cX0_wasteAt 0 = .ok (.iconst 1, 1) := by decide +kernel
theorem dX0_wasteAt_1 : decode cX0_wasteAt 1 = .ok (.iload_n 2, 1) := by decide +kernel
theorem dX0_wasteAt_2 : decode cX0_wasteAt 2 = .ok (.isub, 1) := by decide +kernel
theorem dX0_wasteAt_3 : decode cX0_wasteAt 3 = .ok (.istore 4, 2) := by decide +kernel
theorem dX0_wasteAt_5 : decode cX0_wasteAt 5 = .ok (.iload_n 1, 1) := by decide +kernel
theorem dX0_wasteAt_6 : decode cX0_wasteAt 6 = .ok (.istore 5, 2) := by decide +kernel
theorem dX0_wasteAt_8 : decode cX0_wasteAt 8 = .ok (.iload 5, 2) := by decide +kernel
theorem dX0_wasteAt_10 : decode cX0_wasteAt 10 = .ok (.iload_n 1, 1) := by decide +kernel
theorem dX0_wasteAt_11 : decode cX0_wasteAt 11 = .ok (.iload_n 2, 1) := by decide +kernel
theorem dX0_wasteAt_12 : decode cX0_wasteAt 12 = .ok (.iadd, 1) := by decide +kernel
theorem dX0_wasteAt_13 : decode cX0_wasteAt 13 = .ok (.if_icmp .ge 38, 3) := by decide +kernel
theorem dX0_wasteAt_16 : decode cX0_wasteAt 16 = .ok (.aload_n 0, 1) := by decide +kernel
theorem dX0_wasteAt_17 : decode cX0_wasteAt 17 = .ok (.getfield 20, 3) := by decide +kernel
theorem dX0_wasteAt_20 : decode cX0_wasteAt 20 = .ok (.iload 5, 2) := by decide +kernel
theorem dX0_wasteAt_22 : decode cX0_wasteAt 22 = .ok (.invokevirtual 49, 3) := by decide +kernel
theorem dX0_wasteAt_25 : decode cX0_wasteAt 25 = .ok (.iconst (-1), 1) := by decide +kernel
theorem dX0_wasteAt_26 : decode cX0_wasteAt 26 = .ok (.if_icmp .eq 5, 3) := by decide +kernel
theorem dX0_wasteAt_29 : decode cX0_wasteAt 29 = .ok (.iconst (-1), 1) := by decide +kernel
theorem dX0_wasteAt_30 : decode cX0_wasteAt 30 = .ok (.ireturn, 1) := by decide +kernel
theorem dX0_wasteAt_31 : decode cX0_wasteAt 31 = .ok (.iload 4, 2) := by decide +kernel
theorem dX0_wasteAt_33 : decode cX0_wasteAt 33 = .ok (.aload_n 0, 1) := by decide +kernel
theorem dX0_wasteAt_34 : decode cX0_wasteAt 34 = .ok (.getfield 14, 3) := by decide +kernel
theorem dX0_wasteAt_37 : decode cX0_wasteAt 37 = .ok (.iload 5, 2) := by decide +kernel
theorem dX0_wasteAt_39 : decode cX0_wasteAt 39 = .ok (.invokevirtual 49, 3) := by decide +kernel
theorem dX0_wasteAt_42 : decode cX0_wasteAt 42 = .ok (.iadd, 1) := by decide +kernel
theorem dX0_wasteAt_43 : decode cX0_wasteAt 43 = .ok (.istore 4, 2) := by decide +kernel
theorem dX0_wasteAt_45 : decode cX0_wasteAt 45 = .ok (.iinc 5 1, 3) := by decide +kernel
theorem dX0_wasteAt_48 : decode cX0_wasteAt 48 = .ok (.goto (-40), 3) := by decide +kernel
theorem dX0_wasteAt_51 : decode cX0_wasteAt 51 = .ok (.iload 4, 2) := by decide +kernel
theorem dX0_wasteAt_53 : decode cX0_wasteAt 53 = .ok (.iload_n 3, 1) := by decide +kernel
theorem dX0_wasteAt_54 : decode cX0_wasteAt 54 = .ok (.if_icmp .ge 7, 3) := by decide +kernel
theorem dX0_wasteAt_57 : decode cX0_wasteAt 57 = .ok (.iconst (-1), 1) := by decide +kernel
theorem dX0_wasteAt_58 : decode cX0_wasteAt 58 = .ok (.goto 7, 3) := by decide +kernel
theorem dX0_wasteAt_61 : decode cX0_wasteAt 61 = .ok (.iload 4, 2) := by decide +kernel
theorem dX0_wasteAt_63 : decode cX0_wasteAt 63 = .ok (.iload_n 3, 1) := by decide +kernel
theorem dX0_wasteAt_64 : decode cX0_wasteAt 64 = .ok (.isub, 1) := by decide +kernel
theorem dX0_wasteAt_65 : decode cX0_wasteAt 65 = .ok (.ireturn, 1) := by decide +kernel
set_option maxRecDepth 20000 in
theorem ggX0_leastWasteOfSets_X0_wasteOfSet : GoodIn wsX0_leastWasteOfSets wsX0_wasteOfSet := goodIn_r _ [6, 1, 7, 8, 9, 10, 11, 12, 13, 14, 15, 16, 17, 28, 29, 30, 31, 32, 33, 34, 35, 36, 37] (by decide +kernel) (by decide +kernel)
set_option maxRecDepth 20000 in
theorem gX0_leastWasteOfSets_X0_wasteOfSet : GoodIn wsX0_leastWasteOfSets (wsV RX0 75 RX0 yX0_wasteOfSet wsX0_wasteOfSet) := goodIn_app (goodIn_of _ (by decide +kernel)) ggX0_leastWasteOfSets_X0_wasteOfSet
set_option maxRecDepth 20000 in
theorem ggX0_leastWasteOfSets_X0_lesser : GoodIn wsX0_leastWasteOfSets wsX0_lesser := goodIn_r _ [20, 21, 22, 23, 24, 25, 26, 27] (by decide +kernel) (by decide +kernel)
set_option maxRecDepth 20000 in
theorem gX0_leastWasteOfSets_X0_lesser : GoodIn wsX0_leastWasteOfSets (va_wsS RX0 71 yX0_lesser wsX0_lesser) := goodIn_app (goodIn_of _ (by decide +kernel)) ggX0_leastWasteOfSets_X0_lesser
theorem dX0_leastWasteOfSets_0 : decode cX0_leastWasteOfSets 0 = .ok (.iconst (-1), 1) := by decide +kernel
theorem dX0_leastWasteOfSets_1 : decode cX0_leastWasteOfSets 1 = .ok (.istore_n 2, 1) := by decide +kernel
theorem dX0_leastWasteOfSets_2 : decode cX0_leastWasteOfSets 2 = .ok (.iconst 1, 1) := by decide +kernel
theorem dX0_leastWasteOfSets_3 : decode cX0_leastWasteOfSets 3 = .ok (.istore_n 3, 1) := by decide +kernel
theorem dX0_leastWasteOfSets_4 : decode cX0_leastWasteOfSets 4 = .ok (.iload_n 3, 1) := by decide +kernel
theorem dX0_leastWasteOfSets_5 : decode cX0_leastWasteOfSets 5 = .ok (.iconst 1, 1) := by decide +kernel
theorem dX0_leastWasteOfSets_6 : decode cX0_leastWasteOfSets 6 = .ok (.aload_n 0, 1) := by decide +kernel
theorem dX0_leastWasteOfSets_7 : decode cX0_leastWasteOfSets 7 = .ok (.getfield 35, 3) := by decide +kernel
theorem dX0_leastWasteOfSets_10 : decode cX0_leastWasteOfSets 10 = .ok (.ishl, 1) := by decide +kernel
theorem dX0_leastWasteOfSets_11 : decode cX0_leastWasteOfSets 11 = .ok (.if_icmp .ge 20, 3) := by decide +kernel
theorem dX0_leastWasteOfSets_14 : decode cX0_leastWasteOfSets 14 = .ok (.iload_n 2, 1) := by decide +kernel
theorem dX0_leastWasteOfSets_15 : decode cX0_leastWasteOfSets 15 = .ok (.aload_n 0, 1) := by decide +kernel
theorem dX0_leastWasteOfSets_16 : decode cX0_leastWasteOfSets 16 = .ok (.iload_n 3, 1) := by decide +kernel
theorem dX0_leastWasteOfSets_17 : decode cX0_leastWasteOfSets 17 = .ok (.iload_n 1, 1) := by decide +kernel
theorem dX0_leastWasteOfSets_18 : decode cX0_leastWasteOfSets 18 = .ok (.invokevirtual 75, 3) := by decide +kernel
theorem dX0_leastWasteOfSets_21 : decode cX0_leastWasteOfSets 21 = .ok (.invokestatic 71, 3) := by decide +kernel
theorem dX0_leastWasteOfSets_24 : decode cX0_leastWasteOfSets 24 = .ok (.istore_n 2, 1) := by decide +kernel
theorem dX0_leastWasteOfSets_25 : decode cX0_leastWasteOfSets 25 = .ok (.iinc 3 1, 3) := by decide +kernel
theorem dX0_leastWasteOfSets_28 : decode cX0_leastWasteOfSets 28 = .ok (.goto (-24), 3) := by decide +kernel
theorem dX0_leastWasteOfSets_31 : decode cX0_leastWasteOfSets 31 = .ok (.iload_n 2, 1) := by decide +kernel
theorem dX0_leastWasteOfSets_32 : decode cX0_leastWasteOfSets 32 = .ok (.ireturn, 1) := by decide +kernel
set_option maxRecDepth 20000 in
theorem ggX0_wasteOfSet_X4_contains : GoodIn wsX0_wasteOfSet wsX4_contains := goodIn_r _ [6] (by decide +kernel) (by decide +kernel)
set_option maxRecDepth 20000 in
theorem gX0_wasteOfSet_X4_contains_n78 : GoodIn wsX0_wasteOfSet (wsX4_contains) := ggX0_wasteOfSet_X4_contains
set_option maxRecDepth 20000 in
theorem ggX0_wasteOfSet_X2_at : GoodIn wsX0_wasteOfSet wsX2_at := goodIn_r _ [11, 12, 22] (by decide +kernel) (by decide +kernel)
set_option maxRecDepth 20000 in
theorem gX0_wasteOfSet_X2_at : GoodIn wsX0_wasteOfSet (wsV RX0 49 RX2 yX2_at wsX2_at) := goodIn_app (goodIn_of _ (by decide +kernel)) ggX0_wasteOfSet_X2_at
theorem dX0_wasteOfSet_0 : decode cX0_wasteOfSet 0 = .ok (.iconst (-1), 1) := by decide +kernel
theorem dX0_wasteOfSet_1 : decode cX0_wasteOfSet 1 = .ok (.istore_n 3, 1) := by decide +kernel
theorem dX0_wasteOfSet_2 : decode cX0_wasteOfSet 2 = .ok (.iconst 1, 1) := by decide +kernel
theorem dX0_wasteOfSet_3 : decode cX0_wasteOfSet 3 = .ok (.istore 4, 2) := by decide +kernel
theorem dX0_wasteOfSet_5 : decode cX0_wasteOfSet 5 = .ok (.iconst 0, 1) := by decide +kernel
theorem dX0_wasteOfSet_6 : decode cX0_wasteOfSet 6 = .ok (.istore 5, 2) := by decide +kernel
theorem dX0_wasteOfSet_8 : decode cX0_wasteOfSet 8 = .ok (.iload 5, 2) := by decide +kernel
theorem dX0_wasteOfSet_10 : decode cX0_wasteOfSet 10 = .ok (.aload_n 0, 1) := by decide +kernel
theorem dX0_wasteOfSet_11 : decode cX0_wasteOfSet 11 = .ok (.getfield 35, 3) := by decide +kernel
theorem dX0_wasteOfSet_14 : decode cX0_wasteOfSet 14 = .ok (.if_icmp .ge 77, 3) := by decide +kernel
theorem dX0_wasteOfSet_17 : decode cX0_wasteOfSet 17 = .ok (.iload_n 1, 1) := by decide +kernel
theorem dX0_wasteOfSet_18 : decode cX0_wasteOfSet 18 = .ok (.iload 5, 2) := by decide +kernel
theorem dX0_wasteOfSet_20 : decode cX0_wasteOfSet 20 = .ok (.invokestatic 78, 3) := by decide +kernel
theorem dX0_wasteOfSet_23 : decode cX0_wasteOfSet 23 = .ok (.ifCond .eq 62, 3) := by decide +kernel
theorem dX0_wasteOfSet_26 : decode cX0_wasteOfSet 26 = .ok (.iload_n 3, 1) := by decide +kernel
theorem dX0_wasteOfSet_27 : decode cX0_wasteOfSet 27 = .ok (.iconst (-1), 1) := by decide +kernel
theorem dX0_wasteOfSet_28 : decode cX0_wasteOfSet 28 = .ok (.if_icmp .eq 15, 3) := by decide +kernel
theorem dX0_wasteOfSet_31 : decode cX0_wasteOfSet 31 = .ok (.iload_n 3, 1) := by decide +kernel
theorem dX0_wasteOfSet_32 : decode cX0_wasteOfSet 32 = .ok (.iload 5, 2) := by decide +kernel
theorem dX0_wasteOfSet_34 : decode cX0_wasteOfSet 34 = .ok (.iconst 1, 1) := by decide +kernel
theorem dX0_wasteOfSet_35 : decode cX0_wasteOfSet 35 = .ok (.isub, 1) := by decide +kernel
theorem dX0_wasteOfSet_36 : decode cX0_wasteOfSet 36 = .ok (.if_icmp .eq 7, 3) := by decide +kernel
theorem dX0_wasteOfSet_39 : decode cX0_wasteOfSet 39 = .ok (.iconst 1, 1) := by decide +kernel
theorem dX0_wasteOfSet_40 : decode cX0_wasteOfSet 40 = .ok (.goto 4, 3) := by decide +kernel
theorem dX0_wasteOfSet_43 : decode cX0_wasteOfSet 43 = .ok (.iconst 0, 1) := by decide +kernel
theorem dX0_wasteOfSet_44 : decode cX0_wasteOfSet 44 = .ok (.istore 6, 2) := by decide +kernel
theorem dX0_wasteOfSet_46 : decode cX0_wasteOfSet 46 = .ok (.iload 6, 2) := by decide +kernel
theorem dX0_wasteOfSet_48 : decode cX0_wasteOfSet 48 = .ok (.ifCond .ne 16, 3) := by decide +kernel
theorem dX0_wasteOfSet_51 : decode cX0_wasteOfSet 51 = .ok (.aload_n 0, 1) := by decide +kernel
theorem dX0_wasteOfSet_52 : decode cX0_wasteOfSet 52 = .ok (.getfield 20, 3) := by decide +kernel
theorem dX0_wasteOfSet_55 : decode cX0_wasteOfSet 55 = .ok (.iload 5, 2) := by decide +kernel
theorem dX0_wasteOfSet_57 : decode cX0_wasteOfSet 57 = .ok (.invokevirtual 49, 3) := by decide +kernel
theorem dX0_wasteOfSet_60 : decode cX0_wasteOfSet 60 = .ok (.iconst (-1), 1) := by decide +kernel
theorem dX0_wasteOfSet_61 : decode cX0_wasteOfSet 61 = .ok (.if_icmp .eq 5, 3) := by decide +kernel
theorem dX0_wasteOfSet_64 : decode cX0_wasteOfSet 64 = .ok (.iconst (-1), 1) := by decide +kernel
theorem dX0_wasteOfSet_65 : decode cX0_wasteOfSet 65 = .ok (.ireturn, 1) := by decide +kernel
theorem dX0_wasteOfSet_66 : decode cX0_wasteOfSet 66 = .ok (.iload 4, 2) := by decide +kernel
theorem dX0_wasteOfSet_68 : decode cX0_wasteOfSet 68 = .ok (.aload_n 0, 1) := by decide +kernel
theorem dX0_wasteOfSet_69 : decode cX0_wasteOfSet 69 = .ok (.getfield 14, 3) := by decide +kernel
theorem dX0_wasteOfSet_72 : decode cX0_wasteOfSet 72 = .ok (.iload 5, 2) := by decide +kernel
theorem dX0_wasteOfSet_74 : decode cX0_wasteOfSet 74 = .ok (.invokevirtual 49, 3) := by decide +kernel
theorem dX0_wasteOfSet_77 : decode cX0_wasteOfSet 77 = .ok (.iconst 1, 1) := by decide +kernel
theorem dX0_wasteOfSet_78 : decode cX0_wasteOfSet 78 = .ok (.isub, 1) := by decide +kernel
theorem dX0_wasteOfSet_79 : decode cX0_wasteOfSet 79 = .ok (.iadd, 1) := by decide +kernel
theorem dX0_wasteOfSet_80 : decode cX0_wasteOfSet 80 = .ok (.istore 4, 2) := by decide +kernel
theorem dX0_wasteOfSet_82 : decode cX0_wasteOfSet 82 = .ok (.iload 5, 2) := by decide +kernel
theorem dX0_wasteOfSet_84 : decode cX0_wasteOfSet 84 = .ok (.istore_n 3, 1) := by decide +kernel
theorem dX0_wasteOfSet_85 : decode cX0_wasteOfSet 85 = .ok (.iinc 5 1, 3) := by decide +kernel
theorem dX0_wasteOfSet_88 : decode cX0_wasteOfSet 88 = .ok (.goto (-80), 3) := by decide +kernel
theorem dX0_wasteOfSet_91 : decode cX0_wasteOfSet 91 = .ok (.iload 4, 2) := by decide +kernel
theorem dX0_wasteOfSet_93 : decode cX0_wasteOfSet 93 = .ok (.iload_n 2, 1) := by decide +kernel
theorem dX0_wasteOfSet_94 : decode cX0_wasteOfSet 94 = .ok (.if_icmp .ge 7, 3) := by decide +kernel
theorem dX0_wasteOfSet_97 : decode cX0_wasteOfSet 97 = .ok (.iconst (-1), 1) := by decide +kernel
theorem dX0_wasteOfSet_98 : decode cX0_wasteOfSet 98 = .ok (.goto 7, 3) := by decide +kernel
theorem dX0_wasteOfSet_101 : decode cX0_wasteOfSet 101 = .ok (.iload 4, 2) := by decide +kernel
theorem dX0_wasteOfSet_103 : decode cX0_wasteOfSet 103 = .ok (.iload_n 2, 1) := by decide +kernel
theorem dX0_wasteOfSet_104 : decode cX0_wasteOfSet 104 = .ok (.isub, 1) := by decide +kernel
theorem dX0_wasteOfSet_105 : decode cX0_wasteOfSet 105 = .ok (.ireturn, 1) := by decide +kernel
theorem dX0_lesser_0 : decode cX0_lesser 0 = .ok (.iload_n 0, 1) := by decide +kernel
theorem dX0_lesser_1 : decode cX0_lesser 1 = .ok (.iconst (-1), 1) := by decide +kernel
theorem dX0_lesser_2 : decode cX0_lesser 2 = .ok (.if_icmp .eq 8, 3) := by decide +kernel
theorem dX0_lesser_5 : decode cX0_lesser 5 = .ok (.iload_n 1, 1) := by decide +kernel
theorem dX0_lesser_6 : decode cX0_lesser 6 = .ok (.iconst (-1), 1) := by decide +kernel
theorem dX0_lesser_7 : decode cX0_lesser 7 = .ok (.if_icmp .ne 9, 3) := by decide +kernel
theorem dX0_lesser_10 : decode cX0_lesser 10 = .ok (.iload_n 0, 1) := by decide +kernel
theorem dX0_lesser_11 : decode cX0_lesser 11 = .ok (.iload_n 1, 1) := by decide +kernel
theorem dX0_lesser_12 : decode cX0_lesser 12 = .ok (.invokestatic 82, 3) := by decide +kernel
theorem dX0_lesser_15 : decode cX0_lesser 15 = .ok (.ireturn, 1) := by decide +kernel
theorem dX0_lesser_16 : decode cX0_lesser 16 = .ok (.iload_n 0, 1) := by decide +kernel
theorem dX0_lesser_17 : decode cX0_lesser 17 = .ok (.iload_n 1, 1) := by decide +kernel
theorem dX0_lesser_18 : decode cX0_lesser 18 = .ok (.invokestatic 87, 3) := by decide +kernel
theorem dX0_lesser_21 : decode cX0_lesser 21 = .ok (.ireturn, 1) := by decide +kernel
set_option maxRecDepth 20000 in
theorem ggX0_firstTable_X2_at : GoodIn wsX0_firstTable wsX2_at := goodIn_r _ [7, 8, 18] (by decide +kernel) (by decide +kernel)
set_option maxRecDepth 20000 in
theorem gX0_firstTable_X2_at : GoodIn wsX0_firstTable (wsV RX0 49 RX2 yX2_at wsX2_at) := goodIn_app (goodIn_of _ (by decide +kernel)) ggX0_firstTable_X2_at
theorem dX0_firstTable_0 : decode cX0_firstTable 0 = .ok (.iconst 0, 1) := by decide +kernel
theorem dX0_firstTable_1 : decode cX0_firstTable 1 = .ok (.istore_n 2, 1) := by decide +kernel
theorem dX0_firstTable_2 : decode cX0_firstTable 2 = .ok (.iload_n 2, 1) := by decide +kernel
theorem dX0_firstTable_3 : decode cX0_firstTable 3 = .ok (.aload_n 0, 1) := by decide +kernel
theorem dX0_firstTable_4 : decode cX0_firstTable 4 = .ok (.getfield 35, 3) := by decide +kernel
theorem dX0_firstTable_7 : decode cX0_firstTable 7 = .ok (.if_icmp .ge 23, 3) := by decide +kernel
theorem dX0_firstTable_10 : decode cX0_firstTable 10 = .ok (.aload_n 0, 1) := by decide +kernel
theorem dX0_firstTable_11 : decode cX0_firstTable 11 = .ok (.getfield 20, 3) := by decide +kernel
theorem dX0_firstTable_14 : decode cX0_firstTable 14 = .ok (.iload_n 2, 1) := by decide +kernel
theorem dX0_firstTable_15 : decode cX0_firstTable 15 = .ok (.invokevirtual 49, 3) := by decide +kernel
theorem dX0_firstTable_18 : decode cX0_firstTable 18 = .ok (.iload_n 1, 1) := by decide +kernel
theorem dX0_firstTable_19 : decode cX0_firstTable 19 = .ok (.if_icmp .ne 5, 3) := by decide +kernel
theorem dX0_firstTable_22 : decode cX0_firstTable 22 = .ok (.iload_n 2, 1) := by decide +kernel
theorem dX0_firstTable_23 : decode cX0_firstTable 23 = .ok (.ireturn, 1) := by decide +kernel
theorem dX0_firstTable_24 : decode cX0_firstTable 24 = .ok (.iinc 2 1, 3) := by decide +kernel
theorem dX0_firstTable_27 : decode cX0_firstTable 27 = .ok (.goto (-25), 3) := by decide +kernel
theorem dX0_firstTable_30 : decode cX0_firstTable 30 = .ok (.iconst (-1), 1) := by decide +kernel
theorem dX0_firstTable_31 : decode cX0_firstTable 31 = .ok (.ireturn, 1) := by decide +kernel
set_option maxRecDepth 20000 in
theorem ggX0_countTables_X2_at : GoodIn wsX0_countTables wsX2_at := goodIn_r _ [7, 8, 18] (by decide +kernel) (by decide +kernel)
set_option maxRecDepth 20000 in
theorem gX0_countTables_X2_at : GoodIn wsX0_countTables (wsV RX0 49 RX2 yX2_at wsX2_at) := goodIn_app (goodIn_of _ (by decide +kernel)) ggX0_countTables_X2_at
theorem dX0_countTables_0 : decode cX0_countTables 0 = .ok (.iconst 0, 1) := by decide +kernel
theorem dX0_countTables_1 : decode cX0_countTables 1 = .ok (.istore_n 2, 1) := by decide +kernel
theorem dX0_countTables_2 : decode cX0_countTables 2 = .ok (.iconst 0, 1) := by decide +kernel
theorem dX0_countTables_3 : decode cX0_countTables 3 = .ok (.istore_n 3, 1) := by decide +kernel
theorem dX0_countTables_4 : decode cX0_countTables 4 = .ok (.iload_n 3, 1) := by decide +kernel
theorem dX0_countTables_5 : decode cX0_countTables 5 = .ok (.aload_n 0, 1) := by decide +kernel
theorem dX0_countTables_6 : decode cX0_countTables 6 = .ok (.getfield 35, 3) := by decide +kernel
theorem dX0_countTables_9 : decode cX0_countTables 9 = .ok (.if_icmp .ge 24, 3) := by decide +kernel
theorem dX0_countTables_12 : decode cX0_countTables 12 = .ok (.aload_n 0, 1) := by decide +kernel
theorem dX0_countTables_13 : decode cX0_countTables 13 = .ok (.getfield 20, 3) := by decide +kernel
theorem dX0_countTables_16 : decode cX0_countTables 16 = .ok (.iload_n 3, 1) := by decide +kernel
theorem dX0_countTables_17 : decode cX0_countTables 17 = .ok (.invokevirtual 49, 3) := by decide +kernel
theorem dX0_countTables_20 : decode cX0_countTables 20 = .ok (.iload_n 1, 1) := by decide +kernel
theorem dX0_countTables_21 : decode cX0_countTables 21 = .ok (.if_icmp .ne 6, 3) := by decide +kernel
theorem dX0_countTables_24 : decode cX0_countTables 24 = .ok (.iinc 2 1, 3) := by decide +kernel
theorem dX0_countTables_27 : decode cX0_countTables 27 = .ok (.iinc 3 1, 3) := by decide +kernel
theorem dX0_countTables_30 : decode cX0_countTables 30 = .ok (.goto (-26), 3) := by decide +kernel
theorem dX0_countTables_33 : decode cX0_countTables 33 = .ok (.iload_n 2, 1) := by decide +kernel
theorem dX0_countTables_34 : decode cX0_countTables 34 = .ok (.ireturn, 1) := by decide +kernel
set_option maxRecDepth 20000 in
theorem ggX0_countWaiting_X2_at : GoodIn wsX0_countWaiting wsX2_at := goodIn_r _ [7, 8, 18] (by decide +kernel) (by decide +kernel)
set_option maxRecDepth 20000 in
theorem gX0_countWaiting_X2_at : GoodIn wsX0_countWaiting (wsV RX0 49 RX2 yX2_at wsX2_at) := goodIn_app (goodIn_of _ (by decide +kernel)) ggX0_countWaiting_X2_at
theorem dX0_countWaiting_0 : decode cX0_countWaiting 0 = .ok (.iconst 0, 1) := by decide +kernel
theorem dX0_countWaiting_1 : decode cX0_countWaiting 1 = .ok (.istore_n 1, 1) := by decide +kernel
theorem dX0_countWaiting_2 : decode cX0_countWaiting 2 = .ok (.iconst 0, 1) := by decide +kernel
theorem dX0_countWaiting_3 : decode cX0_countWaiting 3 = .ok (.istore_n 2, 1) := by decide +kernel
theorem dX0_countWaiting_4 : decode cX0_countWaiting 4 = .ok (.iload_n 2, 1) := by decide +kernel
theorem dX0_countWaiting_5 : decode cX0_countWaiting 5 = .ok (.aload_n 0, 1) := by decide +kernel
theorem dX0_countWaiting_6 : decode cX0_countWaiting 6 = .ok (.getfield 42, 3) := by decide +kernel
theorem dX0_countWaiting_9 : decode cX0_countWaiting 9 = .ok (.if_icmp .ge 23, 3) := by decide +kernel
theorem dX0_countWaiting_12 : decode cX0_countWaiting 12 = .ok (.aload_n 0, 1) := by decide +kernel
theorem dX0_countWaiting_13 : decode cX0_countWaiting 13 = .ok (.getfield 32, 3) := by decide +kernel
theorem dX0_countWaiting_16 : decode cX0_countWaiting 16 = .ok (.iload_n 2, 1) := by decide +kernel
theorem dX0_countWaiting_17 : decode cX0_countWaiting 17 = .ok (.invokevirtual 49, 3) := by decide +kernel
theorem dX0_countWaiting_20 : decode cX0_countWaiting 20 = .ok (.ifCond .ne 6, 3) := by decide +kernel
theorem dX0_countWaiting_23 : decode cX0_countWaiting 23 = .ok (.iinc 1 1, 3) := by decide +kernel
theorem dX0_countWaiting_26 : decode cX0_countWaiting 26 = .ok (.iinc 2 1, 3) := by decide +kernel
theorem dX0_countWaiting_29 : decode cX0_countWaiting 29 = .ok (.goto (-25), 3) := by decide +kernel
theorem dX0_countWaiting_32 : decode cX0_countWaiting 32 = .ok (.iload_n 1, 1) := by decide +kernel
theorem dX0_countWaiting_33 : decode cX0_countWaiting 33 = .ok (.ireturn, 1) := by decide +kernel
set_option maxRecDepth 20000 in
theorem ggX0_isSeated_X2_at : GoodIn wsX0_isSeated wsX2_at := goodIn_r _ [6, 7, 17] (by decide +kernel) (by decide +kernel)
set_option maxRecDepth 20000 in
theorem gX0_isSeated_X2_at : GoodIn wsX0_isSeated (wsV RX0 49 RX2 yX2_at wsX2_at) := goodIn_app (goodIn_of _ (by decide +kernel)) ggX0_isSeated_X2_at
theorem dX0_isSeated_0 : decode cX0_isSeated 0 = .ok (.aload_n 0, 1) := by decide +kernel
theorem dX0_isSeated_1 : decode cX0_isSeated 1 = .ok (.getfield 32, 3) := by decide +kernel
theorem dX0_isSeated_4 : decode cX0_isSeated 4 = .ok (.iload_n 1, 1) := by decide +kernel
theorem dX0_isSeated_5 : decode cX0_isSeated 5 = .ok (.invokevirtual 49, 3) := by decide +kernel
theorem dX0_isSeated_8 : decode cX0_isSeated 8 = .ok (.iconst 1, 1) := by decide +kernel
theorem dX0_isSeated_9 : decode cX0_isSeated 9 = .ok (.if_icmp .ne 7, 3) := by decide +kernel
theorem dX0_isSeated_12 : decode cX0_isSeated 12 = .ok (.iconst 1, 1) := by decide +kernel
theorem dX0_isSeated_13 : decode cX0_isSeated 13 = .ok (.goto 4, 3) := by decide +kernel
theorem dX0_isSeated_16 : decode cX0_isSeated 16 = .ok (.iconst 0, 1) := by decide +kernel
theorem dX0_isSeated_17 : decode cX0_isSeated 17 = .ok (.ireturn, 1) := by decide +kernel
set_option maxRecDepth 20000 in
theorem ggX0_isGone_X2_at : GoodIn wsX0_isGone wsX2_at := goodIn_r _ [6, 7, 17] (by decide +kernel) (by decide +kernel)
set_option maxRecDepth 20000 in
theorem gX0_isGone_X2_at : GoodIn wsX0_isGone (wsV RX0 49 RX2 yX2_at wsX2_at) := goodIn_app (goodIn_of _ (by decide +kernel)) ggX0_isGone_X2_at
theorem dX0_isGone_0 : decode cX0_isGone 0 = .ok (.aload_n 0, 1) := by decide +kernel
theorem dX0_isGone_1 : decode cX0_isGone 1 = .ok (.getfield 32, 3) := by decide +kernel
theorem dX0_isGone_4 : decode cX0_isGone 4 = .ok (.iload_n 1, 1) := by decide +kernel
theorem dX0_isGone_5 : decode cX0_isGone 5 = .ok (.invokevirtual 49, 3) := by decide +kernel
theorem dX0_isGone_8 : decode cX0_isGone 8 = .ok (.iconst 2, 1) := by decide +kernel
theorem dX0_isGone_9 : decode cX0_isGone 9 = .ok (.if_icmp .ne 7, 3) := by decide +kernel
theorem dX0_isGone_12 : decode cX0_isGone 12 = .ok (.iconst 1, 1) := by decide +kernel
theorem dX0_isGone_13 : decode cX0_isGone 13 = .ok (.goto 4, 3) := by decide +kernel
theorem dX0_isGone_16 : decode cX0_isGone 16 = .ok (.iconst 0, 1) := by decide +kernel
theorem dX0_isGone_17 : decode cX0_isGone 17 = .ok (.ireturn, 1) := by decide +kernel
set_option maxRecDepth 20000 in
theorem ggX0_minutesLeft_X2_at : GoodIn wsX0_minutesLeft wsX2_at := goodIn_r _ [11, 12, 22] (by decide +kernel) (by decide +kernel)
set_option maxRecDepth 20000 in
theorem gX0_minutesLeft_X2_at : GoodIn wsX0_minutesLeft (wsV RX0 49 RX2 yX2_at wsX2_at) := goodIn_app (goodIn_of _ (by decide +kernel)) ggX0_minutesLeft_X2_at
theorem dX0_minutesLeft_0 : decode cX0_minutesLeft 0 = .ok (.aload_n 0, 1) := by decide +kernel
theorem dX0_minutesLeft_1 : decode cX0_minutesLeft 1 = .ok (.getfield 29, 3) := by decide +kernel
theorem dX0_minutesLeft_4 : decode cX0_minutesLeft 4 = .ok (.iload_n 1, 1) := by decide +kernel
theorem dX0_minutesLeft_5 : decode cX0_minutesLeft 5 = .ok (.invokevirtual 49, 3) := by decide +kernel
theorem dX0_minutesLeft_8 : decode cX0_minutesLeft 8 = .ok (.aload_n 0, 1) := by decide +kernel
theorem dX0_minutesLeft_9 : decode cX0_minutesLeft 9 = .ok (.getfield 68, 3) := by decide +kernel
theorem dX0_minutesLeft_12 : decode cX0_minutesLeft 12 = .ok (.isub, 1) := by decide +kernel
theorem dX0_minutesLeft_13 : decode cX0_minutesLeft 13 = .ok (.iconst 0, 1) := by decide +kernel
theorem dX0_minutesLeft_14 : decode cX0_minutesLeft 14 = .ok (.invokestatic 82, 3) := by decide +kernel
theorem dX0_minutesLeft_17 : decode cX0_minutesLeft 17 = .ok (.ireturn, 1) := by decide +kernel
set_option maxRecDepth 20000 in
theorem ggX1_init_X2_init : GoodIn wsX1_init wsX2_init := goodIn_r _ [14, 15, 2, 3, 16, 17, 18, 19, 20, 21, 22] (by decide +kernel) (by decide +kernel)
set_option maxRecDepth 20000 in
theorem gX1_init_X2_init : GoodIn wsX1_init (wsX2_init) := ggX1_init_X2_init
theorem dX1_init_0 : decode cX1_init 0 = .ok (.aload_n 0, 1) := by decide +kernel
theorem dX1_init_1 : decode cX1_init 1 = .ok (.invokespecial 3, 3) := by decide +kernel
theorem dX1_init_4 : decode cX1_init 4 = .ok (.aload_n 0, 1) := by decide +kernel
theorem dX1_init_5 : decode cX1_init 5 = .ok (.new 9, 3) := by decide +kernel
theorem dX1_init_8 : decode cX1_init 8 = .ok (.dup, 1) := by decide +kernel
theorem dX1_init_9 : decode cX1_init 9 = .ok (.bipush 8, 2) := by decide +kernel
theorem dX1_init_11 : decode cX1_init 11 = .ok (.iconst 0, 1) := by decide +kernel
theorem dX1_init_12 : decode cX1_init 12 = .ok (.invokespecial 11, 3) := by decide +kernel
theorem dX1_init_15 : decode cX1_init 15 = .ok (.putfield 14, 3) := by decide +kernel
theorem dX1_init_18 : decode cX1_init 18 = .ok (.aload_n 0, 1) := by decide +kernel
theorem dX1_init_19 : decode cX1_init 19 = .ok (.new 9, 3) := by decide +kernel
theorem dX1_init_22 : decode cX1_init 22 = .ok (.dup, 1) := by decide +kernel
theorem dX1_init_23 : decode cX1_init 23 = .ok (.bipush 96, 2) := by decide +kernel
theorem dX1_init_25 : decode cX1_init 25 = .ok (.iconst (-1), 1) := by decide +kernel
theorem dX1_init_26 : decode cX1_init 26 = .ok (.invokespecial 11, 3) := by decide +kernel
theorem dX1_init_29 : decode cX1_init 29 = .ok (.putfield 20, 3) := by decide +kernel
theorem dX1_init_32 : decode cX1_init 32 = .ok (.aload_n 0, 1) := by decide +kernel
theorem dX1_init_33 : decode cX1_init 33 = .ok (.new 9, 3) := by decide +kernel
theorem dX1_init_36 : decode cX1_init 36 = .ok (.dup, 1) := by decide +kernel
theorem dX1_init_37 : decode cX1_init 37 = .ok (.bipush 96, 2) := by decide +kernel
theorem dX1_init_39 : decode cX1_init 39 = .ok (.iconst 0, 1) := by decide +kernel
theorem dX1_init_40 : decode cX1_init 40 = .ok (.invokespecial 11, 3) := by decide +kernel
theorem dX1_init_43 : decode cX1_init 43 = .ok (.putfield 23, 3) := by decide +kernel
theorem dX1_init_46 : decode cX1_init 46 = .ok (.aload_n 0, 1) := by decide +kernel
theorem dX1_init_47 : decode cX1_init 47 = .ok (.new 9, 3) := by decide +kernel
theorem dX1_init_50 : decode cX1_init 50 = .ok (.dup, 1) := by decide +kernel
theorem dX1_init_51 : decode cX1_init 51 = .ok (.bipush 96, 2) := by decide +kernel
theorem dX1_init_53 : decode cX1_init 53 = .ok (.iconst 0, 1) := by decide +kernel
theorem dX1_init_54 : decode cX1_init 54 = .ok (.invokespecial 11, 3) := by decide +kernel
theorem dX1_init_57 : decode cX1_init 57 = .ok (.putfield 26, 3) := by decide +kernel
theorem dX1_init_60 : decode cX1_init 60 = .ok (.aload_n 0, 1) := by decide +kernel
theorem dX1_init_61 : decode cX1_init 61 = .ok (.new 9, 3) := by decide +kernel
theorem dX1_init_64 : decode cX1_init 64 = .ok (.dup, 1) := by decide +kernel
theorem dX1_init_65 : decode cX1_init 65 = .ok (.bipush 96, 2) := by decide +kernel
theorem dX1_init_67 : decode cX1_init 67 = .ok (.iconst 0, 1) := by decide +kernel
theorem dX1_init_68 : decode cX1_init 68 = .ok (.invokespecial 11, 3) := by decide +kernel
theorem dX1_init_71 : decode cX1_init 71 = .ok (.putfield 29, 3) := by decide +kernel
theorem dX1_init_74 : decode cX1_init 74 = .ok (.return_, 1) := by decide +kernel
set_option maxRecDepth 20000 in
theorem ggX1_rulesOf_X2_at : GoodIn wsX1_rulesOf wsX2_at := goodIn_r _ [6, 7, 13] (by decide +kernel) (by decide +kernel)
set_option maxRecDepth 20000 in
theorem gX1_rulesOf_X2_at : GoodIn wsX1_rulesOf (wsV RX1 32 RX2 yX2_at wsX2_at) := goodIn_app (goodIn_of _ (by decide +kernel)) ggX1_rulesOf_X2_at
theorem dX1_rulesOf_0 : decode cX1_rulesOf 0 = .ok (.aload_n 0, 1) := by decide +kernel
theorem dX1_rulesOf_1 : decode cX1_rulesOf 1 = .ok (.getfield 14, 3) := by decide +kernel
theorem dX1_rulesOf_4 : decode cX1_rulesOf 4 = .ok (.iload_n 1, 1) := by decide +kernel
theorem dX1_rulesOf_5 : decode cX1_rulesOf 5 = .ok (.invokevirtual 32, 3) := by decide +kernel
theorem dX1_rulesOf_8 : decode cX1_rulesOf 8 = .ok (.ireturn, 1) := by decide +kernel
set_option maxRecDepth 20000 in
theorem ggX1_putRule_X2_at : GoodIn wsX1_putRule wsX2_at := goodIn_r _ [10, 11, 21] (by decide +kernel) (by decide +kernel)
set_option maxRecDepth 20000 in
theorem gX1_putRule_X2_at : GoodIn wsX1_putRule (wsV RX1 32 RX2 yX2_at wsX2_at) := goodIn_app (goodIn_of _ (by decide +kernel)) ggX1_putRule_X2_at
set_option maxRecDepth 20000 in
theorem ggX1_putRule_X2_put : GoodIn wsX1_putRule wsX2_put := goodIn_r _ [15, 11, 21] (by decide +kernel) (by decide +kernel)
set_option maxRecDepth 20000 in
theorem gX1_putRule_X2_put : GoodIn wsX1_putRule (wsV RX1 36 RX2 yX2_put wsX2_put) := goodIn_app (goodIn_of _ (by decide +kernel)) ggX1_putRule_X2_put
theorem dX1_putRule_0 : decode cX1_putRule 0 = .ok (.aload_n 0, 1) := by decide +kernel
theorem dX1_putRule_1 : decode cX1_putRule 1 = .ok (.getfield 14, 3) := by decide +kernel
theorem dX1_putRule_4 : decode cX1_putRule 4 = .ok (.iload_n 1, 1) := by decide +kernel
theorem dX1_putRule_5 : decode cX1_putRule 5 = .ok (.invokevirtual 32, 3) := by decide +kernel
theorem dX1_putRule_8 : decode cX1_putRule 8 = .ok (.istore 6, 2) := by decide +kernel
theorem dX1_putRule_10 : decode cX1_putRule 10 = .ok (.iload_n 1, 1) := by decide +kernel
theorem dX1_putRule_11 : decode cX1_putRule 11 = .ok (.bipush 12, 2) := by decide +kernel
theorem dX1_putRule_13 : decode cX1_putRule 13 = .ok (.imul, 1) := by decide +kernel
theorem dX1_putRule_14 : decode cX1_putRule 14 = .ok (.iload 6, 2) := by decide +kernel
theorem dX1_putRule_16 : decode cX1_putRule 16 = .ok (.iadd, 1) := by decide +kernel
theorem dX1_putRule_17 : decode cX1_putRule 17 = .ok (.istore 7, 2) := by decide +kernel
theorem dX1_putRule_19 : decode cX1_putRule 19 = .ok (.aload_n 0, 1) := by decide +kernel
theorem dX1_putRule_20 : decode cX1_putRule 20 = .ok (.getfield 20, 3) := by decide +kernel
theorem dX1_putRule_23 : decode cX1_putRule 23 = .ok (.iload 7, 2) := by decide +kernel
theorem dX1_putRule_25 : decode cX1_putRule 25 = .ok (.iload_n 2, 1) := by decide +kernel
theorem dX1_putRule_26 : decode cX1_putRule 26 = .ok (.invokevirtual 36, 3) := by decide +kernel
theorem dX1_putRule_29 : decode cX1_putRule 29 = .ok (.aload_n 0, 1) := by decide +kernel
theorem dX1_putRule_30 : decode cX1_putRule 30 = .ok (.getfield 23, 3) := by decide +kernel
theorem dX1_putRule_33 : decode cX1_putRule 33 = .ok (.iload 7, 2) := by decide +kernel
theorem dX1_putRule_35 : decode cX1_putRule 35 = .ok (.iload_n 3, 1) := by decide +kernel
theorem dX1_putRule_36 : decode cX1_putRule 36 = .ok (.invokevirtual 36, 3) := by decide +kernel
theorem dX1_putRule_39 : decode cX1_putRule 39 = .ok (.aload_n 0, 1) := by decide +kernel
theorem dX1_putRule_40 : decode cX1_putRule 40 = .ok (.getfield 26, 3) := by decide +kernel
theorem dX1_putRule_43 : decode cX1_putRule 43 = .ok (.iload 7, 2) := by decide +kernel
theorem dX1_putRule_45 : decode cX1_putRule 45 = .ok (.iload 4, 2) := by decide +kernel
theorem dX1_putRule_47 : decode cX1_putRule 47 = .ok (.invokevirtual 36, 3) := by decide +kernel
theorem dX1_putRule_50 : decode cX1_putRule 50 = .ok (.aload_n 0, 1) := by decide +kernel
theorem dX1_putRule_51 : decode cX1_putRule 51 = .ok (.getfield 29, 3) := by decide +kernel
theorem dX1_putRule_54 : decode cX1_putRule 54 = .ok (.iload 7, 2) := by decide +kernel
theorem dX1_putRule_56 : decode cX1_putRule 56 = .ok (.iload 5, 2) := by decide +kernel
theorem dX1_putRule_58 : decode cX1_putRule 58 = .ok (.invokevirtual 36, 3) := by decide +kernel
theorem dX1_putRule_61 : decode cX1_putRule 61 = .ok (.aload_n 0, 1) := by decide +kernel
theorem dX1_putRule_62 : decode cX1_putRule 62 = .ok (.getfield 14, 3) := by decide +kernel
theorem dX1_putRule_65 : decode cX1_putRule 65 = .ok (.iload_n 1, 1) := by decide +kernel
theorem dX1_putRule_66 : decode cX1_putRule 66 = .ok (.iload 6, 2) := by decide +kernel
theorem dX1_putRule_68 : decode cX1_putRule 68 = .ok (.iconst 1, 1) := by decide +kernel
theorem dX1_putRule_69 : decode cX1_putRule 69 = .ok (.iadd, 1) := by decide +kernel
theorem dX1_putRule_70 : decode cX1_putRule 70 = .ok (.invokevirtual 36, 3) := by decide +kernel
theorem dX1_putRule_73 : decode cX1_putRule 73 = .ok (.iload 6, 2) := by decide +kernel
theorem dX1_putRule_75 : decode cX1_putRule 75 = .ok (.ireturn, 1) := by decide +kernel
set_option maxRecDepth 20000 in
theorem ggX1_parentOf_X2_at : GoodIn wsX1_parentOf wsX2_at := goodIn_r _ [6, 7, 13] (by decide +kernel) (by decide +kernel)
set_option maxRecDepth 20000 in
theorem gX1_parentOf_X2_at : GoodIn wsX1_parentOf (wsV RX1 32 RX2 yX2_at wsX2_at) := goodIn_app (goodIn_of _ (by decide +kernel)) ggX1_parentOf_X2_at
theorem dX1_parentOf_0 : decode cX1_parentOf 0 = .ok (.aload_n 0, 1) := by decide +kernel
theorem dX1_parentOf_1 : decode cX1_parentOf 1 = .ok (.getfield 20, 3) := by decide +kernel
theorem dX1_parentOf_4 : decode cX1_parentOf 4 = .ok (.iload_n 1, 1) := by decide +kernel
theorem dX1_parentOf_5 : decode cX1_parentOf 5 = .ok (.bipush 12, 2) := by decide +kernel
theorem dX1_parentOf_7 : decode cX1_parentOf 7 = .ok (.imul, 1) := by decide +kernel
theorem dX1_parentOf_8 : decode cX1_parentOf 8 = .ok (.iload_n 2, 1) := by decide +kernel
theorem dX1_parentOf_9 : decode cX1_parentOf 9 = .ok (.iadd, 1) := by decide +kernel
theorem dX1_parentOf_10 : decode cX1_parentOf 10 = .ok (.invokevirtual 32, 3) := by decide +kernel
theorem dX1_parentOf_13 : decode cX1_parentOf 13 = .ok (.ireturn, 1) := by decide +kernel
set_option maxRecDepth 20000 in
theorem ggX1_holding_X2_at : GoodIn wsX1_holding wsX2_at := goodIn_r _ [8, 9, 19] (by decide +kernel) (by decide +kernel)
set_option maxRecDepth 20000 in
theorem gX1_holding_X2_at : GoodIn wsX1_holding (wsV RX1 32 RX2 yX2_at wsX2_at) := goodIn_app (goodIn_of _ (by decide +kernel)) ggX1_holding_X2_at
set_option maxRecDepth 20000 in
theorem ggX1_holding_X1_holds : GoodIn wsX1_holding wsX1_holds := goodIn_r _ [13] (by decide +kernel) (by decide +kernel)
set_option maxRecDepth 20000 in
theorem gX1_holding_X1_holds : GoodIn wsX1_holding (va_wsS RX1 39 yX1_holds wsX1_holds) := goodIn_app (goodIn_of _ (by decide +kernel)) ggX1_holding_X1_holds
theorem dX1_holding_0 : decode cX1_holding 0 = .ok (.iconst 0, 1) := by decide +kernel
theorem dX1_holding_1 : decode cX1_holding 1 = .ok (.istore 5, 2) := by decide +kernel
theorem dX1_holding_3 : decode cX1_holding 3 = .ok (.iconst 0, 1) := by decide +kernel
theorem dX1_holding_4 : decode cX1_holding 4 = .ok (.istore 6, 2) := by decide +kernel
theorem dX1_holding_6 : decode cX1_holding 6 = .ok (.iload 6, 2) := by decide +kernel
theorem dX1_holding_8 : decode cX1_holding 8 = .ok (.aload_n 0, 1) := by decide +kernel
theorem dX1_holding_9 : decode cX1_holding 9 = .ok (.getfield 14, 3) := by decide +kernel
theorem dX1_holding_12 : decode cX1_holding 12 = .ok (.iload_n 1, 1) := by decide +kernel
theorem dX1_holding_13 : decode cX1_holding 13 = .ok (.invokevirtual 32, 3) := by decide +kernel
theorem dX1_holding_16 : decode cX1_holding 16 = .ok (.if_icmp .ge 55, 3) := by decide +kernel
theorem dX1_holding_19 : decode cX1_holding 19 = .ok (.iload_n 1, 1) := by decide +kernel
theorem dX1_holding_20 : decode cX1_holding 20 = .ok (.bipush 12, 2) := by decide +kernel
theorem dX1_holding_22 : decode cX1_holding 22 = .ok (.imul, 1) := by decide +kernel
theorem dX1_holding_23 : decode cX1_holding 23 = .ok (.iload 6, 2) := by decide +kernel
theorem dX1_holding_25 : decode cX1_holding 25 = .ok (.iadd, 1) := by decide +kernel
theorem dX1_holding_26 : decode cX1_holding 26 = .ok (.istore 7, 2) := by decide +kernel
theorem dX1_holding_28 : decode cX1_holding 28 = .ok (.aload_n 0, 1) := by decide +kernel
theorem dX1_holding_29 : decode cX1_holding 29 = .ok (.getfield 23, 3) := by decide +kernel
theorem dX1_holding_32 : decode cX1_holding 32 = .ok (.iload 7, 2) := by decide +kernel
theorem dX1_holding_34 : decode cX1_holding 34 = .ok (.invokevirtual 32, 3) := by decide +kernel
theorem dX1_holding_37 : decode cX1_holding 37 = .ok (.aload_n 0, 1) := by decide +kernel
theorem dX1_holding_38 : decode cX1_holding 38 = .ok (.getfield 26, 3) := by decide +kernel
theorem dX1_holding_41 : decode cX1_holding 41 = .ok (.iload 7, 2) := by decide +kernel
theorem dX1_holding_43 : decode cX1_holding 43 = .ok (.invokevirtual 32, 3) := by decide +kernel
theorem dX1_holding_46 : decode cX1_holding 46 = .ok (.iload_n 2, 1) := by decide +kernel
theorem dX1_holding_47 : decode cX1_holding 47 = .ok (.iload_n 3, 1) := by decide +kernel
theorem dX1_holding_48 : decode cX1_holding 48 = .ok (.iload 4, 2) := by decide +kernel
theorem dX1_holding_50 : decode cX1_holding 50 = .ok (.invokestatic 39, 3) := by decide +kernel
theorem dX1_holding_53 : decode cX1_holding 53 = .ok (.ifCond .eq 12, 3) := by decide +kernel
theorem dX1_holding_56 : decode cX1_holding 56 = .ok (.iload 5, 2) := by decide +kernel
theorem dX1_holding_58 : decode cX1_holding 58 = .ok (.iconst 1, 1) := by decide +kernel
theorem dX1_holding_59 : decode cX1_holding 59 = .ok (.iload 6, 2) := by decide +kernel
theorem dX1_holding_61 : decode cX1_holding 61 = .ok (.ishl, 1) := by decide +kernel
theorem dX1_holding_62 : decode cX1_holding 62 = .ok (.ior, 1) := by decide +kernel
theorem dX1_holding_63 : decode cX1_holding 63 = .ok (.istore 5, 2) := by decide +kernel
theorem dX1_holding_65 : decode cX1_holding 65 = .ok (.iinc 6 1, 3) := by decide +kernel
theorem dX1_holding_68 : decode cX1_holding 68 = .ok (.goto (-62), 3) := by decide +kernel
theorem dX1_holding_71 : decode cX1_holding 71 = .ok (.iload 5, 2) := by decide +kernel
theorem dX1_holding_73 : decode cX1_holding 73 = .ok (.ireturn, 1) := by decide +kernel
theorem dX1_holds_0 : decode cX1_holds 0 = .ok (.iload_n 0, 1) := by decide +kernel
theorem dX1_holds_1 : decode cX1_holds 1 = .ok (.tableswitch 81 0 3 #[31, 42, 53, 69], 31) := by decide +kernel
theorem dX1_holds_32 : decode cX1_holds 32 = .ok (.iload_n 2, 1) := by decide +kernel
theorem dX1_holds_33 : decode cX1_holds 33 = .ok (.iload_n 1, 1) := by decide +kernel
theorem dX1_holds_34 : decode cX1_holds 34 = .ok (.if_icmp .lt 7, 3) := by decide +kernel
theorem dX1_holds_37 : decode cX1_holds 37 = .ok (.iconst 1, 1) := by decide +kernel
theorem dX1_holds_38 : decode cX1_holds 38 = .ok (.goto 4, 3) := by decide +kernel
theorem dX1_holds_41 : decode cX1_holds 41 = .ok (.iconst 0, 1) := by decide +kernel
theorem dX1_holds_42 : decode cX1_holds 42 = .ok (.ireturn, 1) := by decide +kernel
theorem dX1_holds_43 : decode cX1_holds 43 = .ok (.iload_n 3, 1) := by decide +kernel
theorem dX1_holds_44 : decode cX1_holds 44 = .ok (.iload_n 1, 1) := by decide +kernel
theorem dX1_holds_45 : decode cX1_holds 45 = .ok (.if_icmp .ge 7, 3) := by decide +kernel
theorem dX1_holds_48 : decode cX1_holds 48 = .ok (.iconst 1, 1) := by decide +kernel
theorem dX1_holds_49 : decode cX1_holds 49 = .ok (.goto 4, 3) := by decide +kernel
theorem dX1_holds_52 : decode cX1_holds 52 = .ok (.iconst 0, 1) := by decide +kernel
theorem dX1_holds_53 : decode cX1_holds 53 = .ok (.ireturn, 1) := by decide +kernel
theorem dX1_holds_54 : decode cX1_holds 54 = .ok (.iload_n 1, 1) := by decide +kernel
theorem dX1_holds_55 : decode cX1_holds 55 = .ok (.ifCond .le 13, 3) := by decide +kernel
theorem dX1_holds_58 : decode cX1_holds 58 = .ok (.iload_n 2, 1) := by decide +kernel
theorem dX1_holds_59 : decode cX1_holds 59 = .ok (.iload_n 1, 1) := by decide +kernel
theorem dX1_holds_60 : decode cX1_holds 60 = .ok (.irem, 1) := by decide +kernel
theorem dX1_holds_61 : decode cX1_holds 61 = .ok (.ifCond .ne 7, 3) := by decide +kernel
theorem dX1_holds_64 : decode cX1_holds 64 = .ok (.iconst 1, 1) := by decide +kernel
theorem dX1_holds_65 : decode cX1_holds 65 = .ok (.goto 4, 3) := by decide +kernel
theorem dX1_holds_68 : decode cX1_holds 68 = .ok (.iconst 0, 1) := by decide +kernel
theorem dX1_holds_69 : decode cX1_holds 69 = .ok (.ireturn, 1) := by decide +kernel
theorem dX1_holds_70 : decode cX1_holds 70 = .ok (.iload 4, 2) := by decide +kernel
theorem dX1_holds_72 : decode cX1_holds 72 = .ok (.iload_n 1, 1) := by decide +kernel
theorem dX1_holds_73 : decode cX1_holds 73 = .ok (.if_icmp .lt 7, 3) := by decide +kernel
theorem dX1_holds_76 : decode cX1_holds 76 = .ok (.iconst 1, 1) := by decide +kernel
theorem dX1_holds_77 : decode cX1_holds 77 = .ok (.goto 4, 3) := by decide +kernel
theorem dX1_holds_80 : decode cX1_holds 80 = .ok (.iconst 0, 1) := by decide +kernel
theorem dX1_holds_81 : decode cX1_holds 81 = .ok (.ireturn, 1) := by decide +kernel
theorem dX1_holds_82 : decode cX1_holds 82 = .ok (.iconst 0, 1) := by decide +kernel
theorem dX1_holds_83 : decode cX1_holds 83 = .ok (.ireturn, 1) := by decide +kernel
set_option maxRecDepth 20000 in
theorem ggX1_rulingGoingDown_X1_firstHolding : GoodIn wsX1_rulingGoingDown wsX1_firstHolding := goodIn_r _ [6, 7, 8, 9, 10, 11, 12, 13, 14, 15, 16, 5, 17, 18, 19, 20, 21, 22, 23, 24, 25, 26, 27] (by decide +kernel) (by decide +kernel)
set_option maxRecDepth 20000 in
theorem gX1_rulingGoingDown_X1_firstHolding : GoodIn wsX1_rulingGoingDown (wsV RX1 43 RX1 yX1_firstHolding wsX1_firstHolding) := goodIn_app (goodIn_of _ (by decide +kernel)) ggX1_rulingGoingDown_X1_firstHolding
set_option maxRecDepth 20000 in
theorem ggX1_rulingGoingDown_X2_at : GoodIn wsX1_rulingGoingDown wsX2_at := goodIn_r _ [12, 13, 27] (by decide +kernel) (by decide +kernel)
set_option maxRecDepth 20000 in
theorem gX1_rulingGoingDown_X2_at : GoodIn wsX1_rulingGoingDown (wsV RX1 32 RX2 yX2_at wsX2_at) := goodIn_app (goodIn_of _ (by decide +kernel)) ggX1_rulingGoingDown_X2_at
theorem dX1_rulingGoingDown_0 : decode cX1_rulingGoingDown 0 = .ok (.iconst (-1), 1) := by decide +kernel
theorem dX1_rulingGoingDown_1 : decode cX1_rulingGoingDown 1 = .ok (.istore_n 3, 1) := by decide +kernel
theorem dX1_rulingGoingDown_2 : decode cX1_rulingGoingDown 2 = .ok (.iconst 0, 1) := by decide +kernel
theorem dX1_rulingGoingDown_3 : decode cX1_rulingGoingDown 3 = .ok (.istore 4, 2) := by decide +kernel
theorem dX1_rulingGoingDown_5 : decode cX1_rulingGoingDown 5 = .ok (.iload 4, 2) := by decide +kernel
theorem dX1_rulingGoingDown_7 : decode cX1_rulingGoingDown 7 = .ok (.bipush 12, 2) := by decide +kernel
theorem dX1_rulingGoingDown_9 : decode cX1_rulingGoingDown 9 = .ok (.if_icmp .ge 30, 3) := by decide +kernel
theorem dX1_rulingGoingDown_12 : decode cX1_rulingGoingDown 12 = .ok (.aload_n 0, 1) := by decide +kernel
theorem dX1_rulingGoingDown_13 : decode cX1_rulingGoingDown 13 = .ok (.iload_n 1, 1) := by decide +kernel
theorem dX1_rulingGoingDown_14 : decode cX1_rulingGoingDown 14 = .ok (.iload_n 3, 1) := by decide +kernel
theorem dX1_rulingGoingDown_15 : decode cX1_rulingGoingDown 15 = .ok (.iload_n 2, 1) := by decide +kernel
theorem dX1_rulingGoingDown_16 : decode cX1_rulingGoingDown 16 = .ok (.invokevirtual 43, 3) := by decide +kernel
theorem dX1_rulingGoingDown_19 : decode cX1_rulingGoingDown 19 = .ok (.istore 5, 2) := by decide +kernel
theorem dX1_rulingGoingDown_21 : decode cX1_rulingGoingDown 21 = .ok (.iload 5, 2) := by decide +kernel
theorem dX1_rulingGoingDown_23 : decode cX1_rulingGoingDown 23 = .ok (.iconst (-1), 1) := by decide +kernel
theorem dX1_rulingGoingDown_24 : decode cX1_rulingGoingDown 24 = .ok (.if_icmp .ne 6, 3) := by decide +kernel
theorem dX1_rulingGoingDown_27 : decode cX1_rulingGoingDown 27 = .ok (.goto 12, 3) := by decide +kernel
theorem dX1_rulingGoingDown_30 : decode cX1_rulingGoingDown 30 = .ok (.iload 5, 2) := by decide +kernel
theorem dX1_rulingGoingDown_32 : decode cX1_rulingGoingDown 32 = .ok (.istore_n 3, 1) := by decide +kernel
theorem dX1_rulingGoingDown_33 : decode cX1_rulingGoingDown 33 = .ok (.iinc 4 1, 3) := by decide +kernel
theorem dX1_rulingGoingDown_36 : decode cX1_rulingGoingDown 36 = .ok (.goto (-31), 3) := by decide +kernel
theorem dX1_rulingGoingDown_39 : decode cX1_rulingGoingDown 39 = .ok (.iload_n 3, 1) := by decide +kernel
theorem dX1_rulingGoingDown_40 : decode cX1_rulingGoingDown 40 = .ok (.iconst (-1), 1) := by decide +kernel
theorem dX1_rulingGoingDown_41 : decode cX1_rulingGoingDown 41 = .ok (.if_icmp .ne 7, 3) := by decide +kernel
theorem dX1_rulingGoingDown_44 : decode cX1_rulingGoingDown 44 = .ok (.iconst (-1), 1) := by decide +kernel
theorem dX1_rulingGoingDown_45 : decode cX1_rulingGoingDown 45 = .ok (.goto 16, 3) := by decide +kernel
theorem dX1_rulingGoingDown_48 : decode cX1_rulingGoingDown 48 = .ok (.aload_n 0, 1) := by decide +kernel
theorem dX1_rulingGoingDown_49 : decode cX1_rulingGoingDown 49 = .ok (.getfield 29, 3) := by decide +kernel
theorem dX1_rulingGoingDown_52 : decode cX1_rulingGoingDown 52 = .ok (.iload_n 1, 1) := by decide +kernel
theorem dX1_rulingGoingDown_53 : decode cX1_rulingGoingDown 53 = .ok (.bipush 12, 2) := by decide +kernel
theorem dX1_rulingGoingDown_55 : decode cX1_rulingGoingDown 55 = .ok (.imul, 1) := by decide +kernel
theorem dX1_rulingGoingDown_56 : decode cX1_rulingGoingDown 56 = .ok (.iload_n 3, 1) := by decide +kernel
theorem dX1_rulingGoingDown_57 : decode cX1_rulingGoingDown 57 = .ok (.iadd, 1) := by decide +kernel
theorem dX1_rulingGoingDown_58 : decode cX1_rulingGoingDown 58 = .ok (.invokevirtual 32, 3) := by decide +kernel
theorem dX1_rulingGoingDown_61 : decode cX1_rulingGoingDown 61 = .ok (.ireturn, 1) := by decide +kernel
set_option maxRecDepth 20000 in
theorem ggX1_firstHolding_X2_at : GoodIn wsX1_firstHolding wsX2_at := goodIn_r _ [6, 7, 22] (by decide +kernel) (by decide +kernel)
set_option maxRecDepth 20000 in
theorem gX1_firstHolding_X2_at : GoodIn wsX1_firstHolding (wsV RX1 32 RX2 yX2_at wsX2_at) := goodIn_app (goodIn_of _ (by decide +kernel)) ggX1_firstHolding_X2_at
set_option maxRecDepth 20000 in
theorem ggX1_firstHolding_X1_parentOf : GoodIn wsX1_firstHolding wsX1_parentOf := goodIn_r _ [12, 13, 2, 3, 4, 5, 6, 7, 17, 18, 19, 20, 21, 22] (by decide +kernel) (by decide +kernel)
set_option maxRecDepth 20000 in
theorem gX1_firstHolding_X1_parentOf : GoodIn wsX1_firstHolding (wsV RX1 47 RX1 yX1_parentOf wsX1_parentOf) := goodIn_app (goodIn_of _ (by decide +kernel)) ggX1_firstHolding_X1_parentOf
set_option maxRecDepth 20000 in
theorem ggX1_firstHolding_X4_contains : GoodIn wsX1_firstHolding wsX4_contains := goodIn_r _ [16] (by decide +kernel) (by decide +kernel)
set_option maxRecDepth 20000 in
theorem gX1_firstHolding_X4_contains_n51 : GoodIn wsX1_firstHolding (wsX4_contains) := ggX1_firstHolding_X4_contains
theorem dX1_firstHolding_0 : decode cX1_firstHolding 0 = .ok (.iconst 0, 1) := by decide +kernel
theorem dX1_firstHolding_1 : decode cX1_firstHolding 1 = .ok (.istore 4, 2) := by decide +kernel
theorem dX1_firstHolding_3 : decode cX1_firstHolding 3 = .ok (.iload 4, 2) := by decide +kernel
theorem dX1_firstHolding_5 : decode cX1_firstHolding 5 = .ok (.aload_n 0, 1) := by decide +kernel
theorem dX1_firstHolding_6 : decode cX1_firstHolding 6 = .ok (.getfield 14, 3) := by decide +kernel
theorem dX1_firstHolding_9 : decode cX1_firstHolding 9 = .ok (.iload_n 1, 1) := by decide +kernel
theorem dX1_firstHolding_10 : decode cX1_firstHolding 10 = .ok (.invokevirtual 32, 3) := by decide +kernel
theorem dX1_firstHolding_13 : decode cX1_firstHolding 13 = .ok (.if_icmp .ge 32, 3) := by decide +kernel
theorem dX1_firstHolding_16 : decode cX1_firstHolding 16 = .ok (.aload_n 0, 1) := by decide +kernel
theorem dX1_firstHolding_17 : decode cX1_firstHolding 17 = .ok (.iload_n 1, 1) := by decide +kernel
theorem dX1_firstHolding_18 : decode cX1_firstHolding 18 = .ok (.iload 4, 2) := by decide +kernel
theorem dX1_firstHolding_20 : decode cX1_firstHolding 20 = .ok (.invokevirtual 47, 3) := by decide +kernel
theorem dX1_firstHolding_23 : decode cX1_firstHolding 23 = .ok (.iload_n 2, 1) := by decide +kernel
theorem dX1_firstHolding_24 : decode cX1_firstHolding 24 = .ok (.if_icmp .ne 15, 3) := by decide +kernel
theorem dX1_firstHolding_27 : decode cX1_firstHolding 27 = .ok (.iload_n 3, 1) := by decide +kernel
theorem dX1_firstHolding_28 : decode cX1_firstHolding 28 = .ok (.iload 4, 2) := by decide +kernel
theorem dX1_firstHolding_30 : decode cX1_firstHolding 30 = .ok (.invokestatic 51, 3) := by decide +kernel
theorem dX1_firstHolding_33 : decode cX1_firstHolding 33 = .ok (.ifCond .eq 6, 3) := by decide +kernel
theorem dX1_firstHolding_36 : decode cX1_firstHolding 36 = .ok (.iload 4, 2) := by decide +kernel
theorem dX1_firstHolding_38 : decode cX1_firstHolding 38 = .ok (.ireturn, 1) := by decide +kernel
theorem dX1_firstHolding_39 : decode cX1_firstHolding 39 = .ok (.iinc 4 1, 3) := by decide +kernel
theorem dX1_firstHolding_42 : decode cX1_firstHolding 42 = .ok (.goto (-39), 3) := by decide +kernel
theorem dX1_firstHolding_45 : decode cX1_firstHolding 45 = .ok (.iconst (-1), 1) := by decide +kernel
theorem dX1_firstHolding_46 : decode cX1_firstHolding 46 = .ok (.ireturn, 1) := by decide +kernel
set_option maxRecDepth 20000 in
theorem ggX1_rulingGoingUp_X2_at : GoodIn wsX1_rulingGoingUp wsX2_at := goodIn_r _ [7, 8, 31] (by decide +kernel) (by decide +kernel)
set_option maxRecDepth 20000 in
theorem gX1_rulingGoingUp_X2_at : GoodIn wsX1_rulingGoingUp (wsV RX1 32 RX2 yX2_at wsX2_at) := goodIn_app (goodIn_of _ (by decide +kernel)) ggX1_rulingGoingUp_X2_at
set_option maxRecDepth 20000 in
theorem ggX1_rulingGoingUp_X1_decides : GoodIn wsX1_rulingGoingUp wsX1_decides := goodIn_r _ [13, 1, 3, 4, 5, 6, 7, 8, 14, 15, 16, 12, 17, 18, 19, 20, 21, 22, 23, 24, 25, 26, 27, 28, 29, 30, 31] (by decide +kernel) (by decide +kernel)
set_option maxRecDepth 20000 in
theorem gX1_rulingGoingUp_X1_decides : GoodIn wsX1_rulingGoingUp (wsV RX1 55 RX1 yX1_decides wsX1_decides) := goodIn_app (goodIn_of _ (by decide +kernel)) ggX1_rulingGoingUp_X1_decides
theorem dX1_rulingGoingUp_0 : decode cX1_rulingGoingUp 0 = .ok (.iconst 0, 1) := by decide +kernel
theorem dX1_rulingGoingUp_1 : decode cX1_rulingGoingUp 1 = .ok (.istore_n 3, 1) := by decide +kernel
theorem dX1_rulingGoingUp_2 : decode cX1_rulingGoingUp 2 = .ok (.iload_n 3, 1) := by decide +kernel
theorem dX1_rulingGoingUp_3 : decode cX1_rulingGoingUp 3 = .ok (.aload_n 0, 1) := by decide +kernel
theorem dX1_rulingGoingUp_4 : decode cX1_rulingGoingUp 4 = .ok (.getfield 14, 3) := by decide +kernel
theorem dX1_rulingGoingUp_7 : decode cX1_rulingGoingUp 7 = .ok (.iload_n 1, 1) := by decide +kernel
theorem dX1_rulingGoingUp_8 : decode cX1_rulingGoingUp 8 = .ok (.invokevirtual 32, 3) := by decide +kernel
theorem dX1_rulingGoingUp_11 : decode cX1_rulingGoingUp 11 = .ok (.if_icmp .ge 33, 3) := by decide +kernel
theorem dX1_rulingGoingUp_14 : decode cX1_rulingGoingUp 14 = .ok (.aload_n 0, 1) := by decide +kernel
theorem dX1_rulingGoingUp_15 : decode cX1_rulingGoingUp 15 = .ok (.iload_n 1, 1) := by decide +kernel
theorem dX1_rulingGoingUp_16 : decode cX1_rulingGoingUp 16 = .ok (.iload_n 3, 1) := by decide +kernel
theorem dX1_rulingGoingUp_17 : decode cX1_rulingGoingUp 17 = .ok (.iload_n 2, 1) := by decide +kernel
theorem dX1_rulingGoingUp_18 : decode cX1_rulingGoingUp 18 = .ok (.invokevirtual 55, 3) := by decide +kernel
theorem dX1_rulingGoingUp_21 : decode cX1_rulingGoingUp 21 = .ok (.ifCond .eq 17, 3) := by decide +kernel
theorem dX1_rulingGoingUp_24 : decode cX1_rulingGoingUp 24 = .ok (.aload_n 0, 1) := by decide +kernel
theorem dX1_rulingGoingUp_25 : decode cX1_rulingGoingUp 25 = .ok (.getfield 29, 3) := by decide +kernel
theorem dX1_rulingGoingUp_28 : decode cX1_rulingGoingUp 28 = .ok (.iload_n 1, 1) := by decide +kernel
theorem dX1_rulingGoingUp_29 : decode cX1_rulingGoingUp 29 = .ok (.bipush 12, 2) := by decide +kernel
theorem dX1_rulingGoingUp_31 : decode cX1_rulingGoingUp 31 = .ok (.imul, 1) := by decide +kernel
theorem dX1_rulingGoingUp_32 : decode cX1_rulingGoingUp 32 = .ok (.iload_n 3, 1) := by decide +kernel
theorem dX1_rulingGoingUp_33 : decode cX1_rulingGoingUp 33 = .ok (.iadd, 1) := by decide +kernel
theorem dX1_rulingGoingUp_34 : decode cX1_rulingGoingUp 34 = .ok (.invokevirtual 32, 3) := by decide +kernel
theorem dX1_rulingGoingUp_37 : decode cX1_rulingGoingUp 37 = .ok (.ireturn, 1) := by decide +kernel
theorem dX1_rulingGoingUp_38 : decode cX1_rulingGoingUp 38 = .ok (.iinc 3 1, 3) := by decide +kernel
theorem dX1_rulingGoingUp_41 : decode cX1_rulingGoingUp 41 = .ok (.goto (-39), 3) := by decide +kernel
theorem dX1_rulingGoingUp_44 : decode cX1_rulingGoingUp 44 = .ok (.iconst (-1), 1) := by decide +kernel
theorem dX1_rulingGoingUp_45 : decode cX1_rulingGoingUp 45 = .ok (.ireturn, 1) := by decide +kernel
set_option maxRecDepth 20000 in
theorem ggX1_decides_X2_at : GoodIn wsX1_decides wsX2_at := goodIn_r _ [6, 7, 26] (by decide +kernel) (by decide +kernel)
set_option maxRecDepth 20000 in
theorem gX1_decides_X2_at : GoodIn wsX1_decides (wsV RX1 32 RX2 yX2_at wsX2_at) := goodIn_app (goodIn_of _ (by decide +kernel)) ggX1_decides_X2_at
set_option maxRecDepth 20000 in
theorem ggX1_decides_X1_holdsAmong : GoodIn wsX1_decides wsX1_holdsAmong := goodIn_r _ [12, 13, 14, 15, 11, 16, 17, 2, 3, 4, 5, 6, 7, 18, 19, 20, 21, 22, 23, 24, 25, 26] (by decide +kernel) (by decide +kernel)
set_option maxRecDepth 20000 in
theorem gX1_decides_X1_holdsAmong : GoodIn wsX1_decides (wsV RX1 59 RX1 yX1_holdsAmong wsX1_holdsAmong) := goodIn_app (goodIn_of _ (by decide +kernel)) ggX1_decides_X1_holdsAmong
set_option maxRecDepth 20000 in
theorem ggX1_decides_X1_parentOf : GoodIn wsX1_decides wsX1_parentOf := goodIn_r _ [16, 17, 2, 3, 4, 5, 6, 7, 21, 22, 23, 24, 25, 26] (by decide +kernel) (by decide +kernel)
set_option maxRecDepth 20000 in
theorem gX1_decides_X1_parentOf : GoodIn wsX1_decides (wsV RX1 47 RX1 yX1_parentOf wsX1_parentOf) := goodIn_app (goodIn_of _ (by decide +kernel)) ggX1_decides_X1_parentOf
set_option maxRecDepth 20000 in
theorem ggX1_decides_X4_contains : GoodIn wsX1_decides wsX4_contains := goodIn_r _ [20] (by decide +kernel) (by decide +kernel)
set_option maxRecDepth 20000 in
theorem gX1_decides_X4_contains_n51 : GoodIn wsX1_decides (wsX4_contains) := ggX1_decides_X4_contains
theorem dX1_decides_0 : decode cX1_decides 0 = .ok (.aload_n 0, 1) := by decide +kernel
theorem dX1_decides_1 : decode cX1_decides 1 = .ok (.iload_n 1, 1) := by decide +kernel
theorem dX1_decides_2 : decode cX1_decides 2 = .ok (.iload_n 2, 1) := by decide +kernel
theorem dX1_decides_3 : decode cX1_decides 3 = .ok (.aload_n 0, 1) := by decide +kernel
theorem dX1_decides_4 : decode cX1_decides 4 = .ok (.getfield 14, 3) := by decide +kernel
theorem dX1_decides_7 : decode cX1_decides 7 = .ok (.iload_n 1, 1) := by decide +kernel
theorem dX1_decides_8 : decode cX1_decides 8 = .ok (.invokevirtual 32, 3) := by decide +kernel
theorem dX1_decides_11 : decode cX1_decides 11 = .ok (.iload_n 3, 1) := by decide +kernel
theorem dX1_decides_12 : decode cX1_decides 12 = .ok (.invokevirtual 59, 3) := by decide +kernel
theorem dX1_decides_15 : decode cX1_decides 15 = .ok (.ifCond .eq 5, 3) := by decide +kernel
theorem dX1_decides_18 : decode cX1_decides 18 = .ok (.iconst 0, 1) := by decide +kernel
theorem dX1_decides_19 : decode cX1_decides 19 = .ok (.ireturn, 1) := by decide +kernel
theorem dX1_decides_20 : decode cX1_decides 20 = .ok (.iload_n 2, 1) := by decide +kernel
theorem dX1_decides_21 : decode cX1_decides 21 = .ok (.istore 4, 2) := by decide +kernel
theorem dX1_decides_23 : decode cX1_decides 23 = .ok (.iconst 0, 1) := by decide +kernel
theorem dX1_decides_24 : decode cX1_decides 24 = .ok (.istore 5, 2) := by decide +kernel
theorem dX1_decides_26 : decode cX1_decides 26 = .ok (.iload 5, 2) := by decide +kernel
theorem dX1_decides_28 : decode cX1_decides 28 = .ok (.bipush 12, 2) := by decide +kernel
theorem dX1_decides_30 : decode cX1_decides 30 = .ok (.if_icmp .ge 52, 3) := by decide +kernel
theorem dX1_decides_33 : decode cX1_decides 33 = .ok (.iload 4, 2) := by decide +kernel
theorem dX1_decides_35 : decode cX1_decides 35 = .ok (.iconst (-1), 1) := by decide +kernel
theorem dX1_decides_36 : decode cX1_decides 36 = .ok (.if_icmp .eq 46, 3) := by decide +kernel
theorem dX1_decides_39 : decode cX1_decides 39 = .ok (.aload_n 0, 1) := by decide +kernel
theorem dX1_decides_40 : decode cX1_decides 40 = .ok (.iload_n 1, 1) := by decide +kernel
theorem dX1_decides_41 : decode cX1_decides 41 = .ok (.iload 4, 2) := by decide +kernel
theorem dX1_decides_43 : decode cX1_decides 43 = .ok (.invokevirtual 47, 3) := by decide +kernel
theorem dX1_decides_46 : decode cX1_decides 46 = .ok (.istore 6, 2) := by decide +kernel
theorem dX1_decides_48 : decode cX1_decides 48 = .ok (.iload_n 3, 1) := by decide +kernel
theorem dX1_decides_49 : decode cX1_decides 49 = .ok (.iload 4, 2) := by decide +kernel
theorem dX1_decides_51 : decode cX1_decides 51 = .ok (.invokestatic 51, 3) := by decide +kernel
theorem dX1_decides_54 : decode cX1_decides 54 = .ok (.ifCond .eq 16, 3) := by decide +kernel
theorem dX1_decides_57 : decode cX1_decides 57 = .ok (.aload_n 0, 1) := by decide +kernel
theorem dX1_decides_58 : decode cX1_decides 58 = .ok (.iload_n 1, 1) := by decide +kernel
theorem dX1_decides_59 : decode cX1_decides 59 = .ok (.iload 6, 2) := by decide +kernel
theorem dX1_decides_61 : decode cX1_decides 61 = .ok (.iload 4, 2) := by decide +kernel
theorem dX1_decides_63 : decode cX1_decides 63 = .ok (.iload_n 3, 1) := by decide +kernel
theorem dX1_decides_64 : decode cX1_decides 64 = .ok (.invokevirtual 59, 3) := by decide +kernel
theorem dX1_decides_67 : decode cX1_decides 67 = .ok (.ifCond .eq 5, 3) := by decide +kernel
theorem dX1_decides_70 : decode cX1_decides 70 = .ok (.iconst 0, 1) := by decide +kernel
theorem dX1_decides_71 : decode cX1_decides 71 = .ok (.ireturn, 1) := by decide +kernel
theorem dX1_decides_72 : decode cX1_decides 72 = .ok (.iload 6, 2) := by decide +kernel
theorem dX1_decides_74 : decode cX1_decides 74 = .ok (.istore 4, 2) := by decide +kernel
theorem dX1_decides_76 : decode cX1_decides 76 = .ok (.iinc 5 1, 3) := by decide +kernel
theorem dX1_decides_79 : decode cX1_decides 79 = .ok (.goto (-53), 3) := by decide +kernel
theorem dX1_decides_82 : decode cX1_decides 82 = .ok (.iconst 1, 1) := by decide +kernel
theorem dX1_decides_83 : decode cX1_decides 83 = .ok (.ireturn, 1) := by decide +kernel
set_option maxRecDepth 20000 in
theorem ggX1_holdsAmong_X1_parentOf : GoodIn wsX1_holdsAmong wsX1_parentOf := goodIn_r _ [5, 6, 7, 8, 9, 10, 11, 12, 16, 17, 18, 19, 20, 21] (by decide +kernel) (by decide +kernel)
set_option maxRecDepth 20000 in
theorem gX1_holdsAmong_X1_parentOf : GoodIn wsX1_holdsAmong (wsV RX1 47 RX1 yX1_parentOf wsX1_parentOf) := goodIn_app (goodIn_of _ (by decide +kernel)) ggX1_holdsAmong_X1_parentOf
set_option maxRecDepth 20000 in
theorem ggX1_holdsAmong_X4_contains : GoodIn wsX1_holdsAmong wsX4_contains := goodIn_r _ [15] (by decide +kernel) (by decide +kernel)
set_option maxRecDepth 20000 in
theorem gX1_holdsAmong_X4_contains_n51 : GoodIn wsX1_holdsAmong (wsX4_contains) := ggX1_holdsAmong_X4_contains
theorem dX1_holdsAmong_0 : decode cX1_holdsAmong 0 = .ok (.iconst 0, 1) := by decide +kernel
theorem dX1_holdsAmong_1 : decode cX1_holdsAmong 1 = .ok (.istore 5, 2) := by decide +kernel
theorem dX1_holdsAmong_3 : decode cX1_holdsAmong 3 = .ok (.iload 5, 2) := by decide +kernel
theorem dX1_holdsAmong_5 : decode cX1_holdsAmong 5 = .ok (.iload_n 3, 1) := by decide +kernel
theorem dX1_holdsAmong_6 : decode cX1_holdsAmong 6 = .ok (.if_icmp .ge 32, 3) := by decide +kernel
theorem dX1_holdsAmong_9 : decode cX1_holdsAmong 9 = .ok (.aload_n 0, 1) := by decide +kernel
theorem dX1_holdsAmong_10 : decode cX1_holdsAmong 10 = .ok (.iload_n 1, 1) := by decide +kernel
theorem dX1_holdsAmong_11 : decode cX1_holdsAmong 11 = .ok (.iload 5, 2) := by decide +kernel
theorem dX1_holdsAmong_13 : decode cX1_holdsAmong 13 = .ok (.invokevirtual 47, 3) := by decide +kernel
theorem dX1_holdsAmong_16 : decode cX1_holdsAmong 16 = .ok (.iload_n 2, 1) := by decide +kernel
theorem dX1_holdsAmong_17 : decode cX1_holdsAmong 17 = .ok (.if_icmp .ne 15, 3) := by decide +kernel
theorem dX1_holdsAmong_20 : decode cX1_holdsAmong 20 = .ok (.iload 4, 2) := by decide +kernel
theorem dX1_holdsAmong_22 : decode cX1_holdsAmong 22 = .ok (.iload 5, 2) := by decide +kernel
theorem dX1_holdsAmong_24 : decode cX1_holdsAmong 24 = .ok (.invokestatic 51, 3) := by decide +kernel
theorem dX1_holdsAmong_27 : decode cX1_holdsAmong 27 = .ok (.ifCond .eq 5, 3) := by decide +kernel
theorem dX1_holdsAmong_30 : decode cX1_holdsAmong 30 = .ok (.iconst 1, 1) := by decide +kernel
theorem dX1_holdsAmong_31 : decode cX1_holdsAmong 31 = .ok (.ireturn, 1) := by decide +kernel
theorem dX1_holdsAmong_32 : decode cX1_holdsAmong 32 = .ok (.iinc 5 1, 3) := by decide +kernel
theorem dX1_holdsAmong_35 : decode cX1_holdsAmong 35 = .ok (.goto (-32), 3) := by decide +kernel
theorem dX1_holdsAmong_38 : decode cX1_holdsAmong 38 = .ok (.iconst 0, 1) := by decide +kernel
theorem dX1_holdsAmong_39 : decode cX1_holdsAmong 39 = .ok (.ireturn, 1) := by decide +kernel
set_option maxRecDepth 20000 in
theorem ggX1_deepest_X2_at : GoodIn wsX1_deepest wsX2_at := goodIn_r _ [10, 11, 27] (by decide +kernel) (by decide +kernel)
set_option maxRecDepth 20000 in
theorem gX1_deepest_X2_at : GoodIn wsX1_deepest (wsV RX1 32 RX2 yX2_at wsX2_at) := goodIn_app (goodIn_of _ (by decide +kernel)) ggX1_deepest_X2_at
set_option maxRecDepth 20000 in
theorem ggX1_deepest_X1_levelOf : GoodIn wsX1_deepest wsX1_levelOf := goodIn_r _ [16, 17, 18, 19, 15, 20, 21, 6, 7, 8, 9, 10, 11, 22, 23, 24, 25, 26, 27] (by decide +kernel) (by decide +kernel)
set_option maxRecDepth 20000 in
theorem gX1_deepest_X1_levelOf : GoodIn wsX1_deepest (wsV RX1 63 RX1 yX1_levelOf wsX1_levelOf) := goodIn_app (goodIn_of _ (by decide +kernel)) ggX1_deepest_X1_levelOf
theorem dX1_deepest_0 : decode cX1_deepest 0 = .ok (.iconst 0, 1) := by decide +kernel
theorem dX1_deepest_1 : decode cX1_deepest 1 = .ok (.istore_n 2, 1) := by decide +kernel
theorem dX1_deepest_2 : decode cX1_deepest 2 = .ok (.iconst 0, 1) := by decide +kernel
theorem dX1_deepest_3 : decode cX1_deepest 3 = .ok (.istore_n 3, 1) := by decide +kernel
theorem dX1_deepest_4 : decode cX1_deepest 4 = .ok (.iload_n 3, 1) := by decide +kernel
theorem dX1_deepest_5 : decode cX1_deepest 5 = .ok (.aload_n 0, 1) := by decide +kernel
theorem dX1_deepest_6 : decode cX1_deepest 6 = .ok (.getfield 14, 3) := by decide +kernel
theorem dX1_deepest_9 : decode cX1_deepest 9 = .ok (.iload_n 1, 1) := by decide +kernel
theorem dX1_deepest_10 : decode cX1_deepest 10 = .ok (.invokevirtual 32, 3) := by decide +kernel
theorem dX1_deepest_13 : decode cX1_deepest 13 = .ok (.if_icmp .ge 20, 3) := by decide +kernel
theorem dX1_deepest_16 : decode cX1_deepest 16 = .ok (.iload_n 2, 1) := by decide +kernel
theorem dX1_deepest_17 : decode cX1_deepest 17 = .ok (.aload_n 0, 1) := by decide +kernel
theorem dX1_deepest_18 : decode cX1_deepest 18 = .ok (.iload_n 1, 1) := by decide +kernel
theorem dX1_deepest_19 : decode cX1_deepest 19 = .ok (.iload_n 3, 1) := by decide +kernel
theorem dX1_deepest_20 : decode cX1_deepest 20 = .ok (.invokevirtual 63, 3) := by decide +kernel
theorem dX1_deepest_23 : decode cX1_deepest 23 = .ok (.invokestatic 66, 3) := by decide +kernel
theorem dX1_deepest_26 : decode cX1_deepest 26 = .ok (.istore_n 2, 1) := by decide +kernel
theorem dX1_deepest_27 : decode cX1_deepest 27 = .ok (.iinc 3 1, 3) := by decide +kernel
theorem dX1_deepest_30 : decode cX1_deepest 30 = .ok (.goto (-26), 3) := by decide +kernel
theorem dX1_deepest_33 : decode cX1_deepest 33 = .ok (.iload_n 2, 1) := by decide +kernel
theorem dX1_deepest_34 : decode cX1_deepest 34 = .ok (.ireturn, 1) := by decide +kernel
set_option maxRecDepth 20000 in
theorem ggX1_levelOf_X1_parentOf : GoodIn wsX1_levelOf wsX1_parentOf := goodIn_r _ [5, 6, 7, 8, 9, 10, 11, 12, 13, 14, 15, 16, 17, 18] (by decide +kernel) (by decide +kernel)
set_option maxRecDepth 20000 in
theorem gX1_levelOf_X1_parentOf : GoodIn wsX1_levelOf (wsV RX1 47 RX1 yX1_parentOf wsX1_parentOf) := goodIn_app (goodIn_of _ (by decide +kernel)) ggX1_levelOf_X1_parentOf
theorem dX1_levelOf_0 : decode cX1_levelOf 0 = .ok (.iconst 0, 1) := by decide +kernel
theorem dX1_levelOf_1 : decode cX1_levelOf 1 = .ok (.istore_n 3, 1) := by decide +kernel
theorem dX1_levelOf_2 : decode cX1_levelOf 2 = .ok (.iload_n 2, 1) := by decide +kernel
theorem dX1_levelOf_3 : decode cX1_levelOf 3 = .ok (.istore 4, 2) := by decide +kernel
theorem dX1_levelOf_5 : decode cX1_levelOf 5 = .ok (.iload 4, 2) := by decide +kernel
theorem dX1_levelOf_7 : decode cX1_levelOf 7 = .ok (.iconst (-1), 1) := by decide +kernel
theorem dX1_levelOf_8 : decode cX1_levelOf 8 = .ok (.if_icmp .eq 24, 3) := by decide +kernel
theorem dX1_levelOf_11 : decode cX1_levelOf 11 = .ok (.iload_n 3, 1) := by decide +kernel
theorem dX1_levelOf_12 : decode cX1_levelOf 12 = .ok (.bipush 12, 2) := by decide +kernel
theorem dX1_levelOf_14 : decode cX1_levelOf 14 = .ok (.if_icmp .ge 18, 3) := by decide +kernel
theorem dX1_levelOf_17 : decode cX1_levelOf 17 = .ok (.iinc 3 1, 3) := by decide +kernel
theorem dX1_levelOf_20 : decode cX1_levelOf 20 = .ok (.aload_n 0, 1) := by decide +kernel
theorem dX1_levelOf_21 : decode cX1_levelOf 21 = .ok (.iload_n 1, 1) := by decide +kernel
theorem dX1_levelOf_22 : decode cX1_levelOf 22 = .ok (.iload 4, 2) := by decide +kernel
theorem dX1_levelOf_24 : decode cX1_levelOf 24 = .ok (.invokevirtual 47, 3) := by decide +kernel
theorem dX1_levelOf_27 : decode cX1_levelOf 27 = .ok (.istore 4, 2) := by decide +kernel
theorem dX1_levelOf_29 : decode cX1_levelOf 29 = .ok (.goto (-24), 3) := by decide +kernel
theorem dX1_levelOf_32 : decode cX1_levelOf 32 = .ok (.iload_n 3, 1) := by decide +kernel
theorem dX1_levelOf_33 : decode cX1_levelOf 33 = .ok (.ireturn, 1) := by decide +kernel
theorem dX2_init_0 : decode cX2_init 0 = .ok (.aload_n 0, 1) := by decide +kernel
theorem dX2_init_1 : decode cX2_init 1 = .ok (.invokespecial 3, 3) := by decide +kernel
theorem dX2_init_4 : decode cX2_init 4 = .ok (.aload_n 0, 1) := by decide +kernel
theorem dX2_init_5 : decode cX2_init 5 = .ok (.iload_n 1, 1) := by decide +kernel
theorem dX2_init_6 : decode cX2_init 6 = .ok (.iconst 0, 1) := by decide +kernel
theorem dX2_init_7 : decode cX2_init 7 = .ok (.invokestatic 9, 3) := by decide +kernel
theorem dX2_init_10 : decode cX2_init 10 = .ok (.newarray .int, 2) := by decide +kernel
theorem dX2_init_12 : decode cX2_init 12 = .ok (.putfield 15, 3) := by decide +kernel
theorem dX2_init_15 : decode cX2_init 15 = .ok (.iconst 0, 1) := by decide +kernel
theorem dX2_init_16 : decode cX2_init 16 = .ok (.istore_n 3, 1) := by decide +kernel
theorem dX2_init_17 : decode cX2_init 17 = .ok (.iload_n 3, 1) := by decide +kernel
theorem dX2_init_18 : decode cX2_init 18 = .ok (.aload_n 0, 1) := by decide +kernel
theorem dX2_init_19 : decode cX2_init 19 = .ok (.getfield 15, 3) := by decide +kernel
theorem dX2_init_22 : decode cX2_init 22 = .ok (.arraylength, 1) := by decide +kernel
theorem dX2_init_23 : decode cX2_init 23 = .ok (.if_icmp .ge 16, 3) := by decide +kernel
theorem dX2_init_26 : decode cX2_init 26 = .ok (.aload_n 0, 1) := by decide +kernel
theorem dX2_init_27 : decode cX2_init 27 = .ok (.getfield 15, 3) := by decide +kernel
theorem dX2_init_30 : decode cX2_init 30 = .ok (.iload_n 3, 1) := by decide +kernel
theorem dX2_init_31 : decode cX2_init 31 = .ok (.iload_n 2, 1) := by decide +kernel
theorem dX2_init_32 : decode cX2_init 32 = .ok (.iastore, 1) := by decide +kernel
theorem dX2_init_33 : decode cX2_init 33 = .ok (.iinc 3 1, 3) := by decide +kernel
theorem dX2_init_36 : decode cX2_init 36 = .ok (.goto (-19), 3) := by decide +kernel
theorem dX2_init_39 : decode cX2_init 39 = .ok (.return_, 1) := by decide +kernel
theorem dX2_at_0 : decode cX2_at 0 = .ok (.iload_n 1, 1) := by decide +kernel
theorem dX2_at_1 : decode cX2_at 1 = .ok (.ifCond .lt 21, 3) := by decide +kernel
theorem dX2_at_4 : decode cX2_at 4 = .ok (.iload_n 1, 1) := by decide +kernel
theorem dX2_at_5 : decode cX2_at 5 = .ok (.aload_n 0, 1) := by decide +kernel
theorem dX2_at_6 : decode cX2_at 6 = .ok (.getfield 15, 3) := by decide +kernel
theorem dX2_at_9 : decode cX2_at 9 = .ok (.arraylength, 1) := by decide +kernel
theorem dX2_at_10 : decode cX2_at 10 = .ok (.if_icmp .ge 12, 3) := by decide +kernel
theorem dX2_at_13 : decode cX2_at 13 = .ok (.aload_n 0, 1) := by decide +kernel
theorem dX2_at_14 : decode cX2_at 14 = .ok (.getfield 15, 3) := by decide +kernel
theorem dX2_at_17 : decode cX2_at 17 = .ok (.iload_n 1, 1) := by decide +kernel
theorem dX2_at_18 : decode cX2_at 18 = .ok (.iaload, 1) := by decide +kernel
theorem dX2_at_19 : decode cX2_at 19 = .ok (.goto 4, 3) := by decide +kernel
theorem dX2_at_22 : decode cX2_at 22 = .ok (.iconst (-1), 1) := by decide +kernel
theorem dX2_at_23 : decode cX2_at 23 = .ok (.ireturn, 1) := by decide +kernel
theorem dX2_put_0 : decode cX2_put 0 = .ok (.iload_n 1, 1) := by decide +kernel
theorem dX2_put_1 : decode cX2_put 1 = .ok (.ifCond .lt 19, 3) := by decide +kernel
theorem dX2_put_4 : decode cX2_put 4 = .ok (.iload_n 1, 1) := by decide +kernel
theorem dX2_put_5 : decode cX2_put 5 = .ok (.aload_n 0, 1) := by decide +kernel
theorem dX2_put_6 : decode cX2_put 6 = .ok (.getfield 15, 3) := by decide +kernel
theorem dX2_put_9 : decode cX2_put 9 = .ok (.arraylength, 1) := by decide +kernel
theorem dX2_put_10 : decode cX2_put 10 = .ok (.if_icmp .ge 10, 3) := by decide +kernel
theorem dX2_put_13 : decode cX2_put 13 = .ok (.aload_n 0, 1) := by decide +kernel
theorem dX2_put_14 : decode cX2_put 14 = .ok (.getfield 15, 3) := by decide +kernel
theorem dX2_put_17 : decode cX2_put 17 = .ok (.iload_n 1, 1) := by decide +kernel
theorem dX2_put_18 : decode cX2_put 18 = .ok (.iload_n 2, 1) := by decide +kernel
theorem dX2_put_19 : decode cX2_put 19 = .ok (.iastore, 1) := by decide +kernel
theorem dX2_put_20 : decode cX2_put 20 = .ok (.return_, 1) := by decide +kernel
set_option maxRecDepth 20000 in
theorem ggX3_init_X2_init : GoodIn wsX3_init wsX2_init := goodIn_r _ [18, 19, 2, 3, 20, 21, 22, 23, 24, 25, 26] (by decide +kernel) (by decide +kernel)
set_option maxRecDepth 20000 in
theorem gX3_init_X2_init : GoodIn wsX3_init (wsX2_init) := ggX3_init_X2_init
theorem dX3_init_0 : decode cX3_init 0 = .ok (.aload_n 0, 1) := by decide +kernel
theorem dX3_init_1 : decode cX3_init 1 = .ok (.invokespecial 3, 3) := by decide +kernel
theorem dX3_init_4 : decode cX3_init 4 = .ok (.aload_n 0, 1) := by decide +kernel
theorem dX3_init_5 : decode cX3_init 5 = .ok (.new 9, 3) := by decide +kernel
theorem dX3_init_8 : decode cX3_init 8 = .ok (.dup, 1) := by decide +kernel
theorem dX3_init_9 : decode cX3_init 9 = .ok (.bipush 8, 2) := by decide +kernel
theorem dX3_init_11 : decode cX3_init 11 = .ok (.iconst 0, 1) := by decide +kernel
theorem dX3_init_12 : decode cX3_init 12 = .ok (.invokespecial 11, 3) := by decide +kernel
theorem dX3_init_15 : decode cX3_init 15 = .ok (.putfield 14, 3) := by decide +kernel
theorem dX3_init_18 : decode cX3_init 18 = .ok (.aload_n 0, 1) := by decide +kernel
theorem dX3_init_19 : decode cX3_init 19 = .ok (.new 9, 3) := by decide +kernel
theorem dX3_init_22 : decode cX3_init 22 = .ok (.dup, 1) := by decide +kernel
theorem dX3_init_23 : decode cX3_init 23 = .ok (.bipush 8, 2) := by decide +kernel
theorem dX3_init_25 : decode cX3_init 25 = .ok (.iconst 0, 1) := by decide +kernel
theorem dX3_init_26 : decode cX3_init 26 = .ok (.invokespecial 11, 3) := by decide +kernel
theorem dX3_init_29 : decode cX3_init 29 = .ok (.putfield 20, 3) := by decide +kernel
theorem dX3_init_32 : decode cX3_init 32 = .ok (.aload_n 0, 1) := by decide +kernel
theorem dX3_init_33 : decode cX3_init 33 = .ok (.new 9, 3) := by decide +kernel
theorem dX3_init_36 : decode cX3_init 36 = .ok (.dup, 1) := by decide +kernel
theorem dX3_init_37 : decode cX3_init 37 = .ok (.bipush 8, 2) := by decide +kernel
theorem dX3_init_39 : decode cX3_init 39 = .ok (.iconst 0, 1) := by decide +kernel
theorem dX3_init_40 : decode cX3_init 40 = .ok (.invokespecial 11, 3) := by decide +kernel
theorem dX3_init_43 : decode cX3_init 43 = .ok (.putfield 23, 3) := by decide +kernel
theorem dX3_init_46 : decode cX3_init 46 = .ok (.aload_n 0, 1) := by decide +kernel
theorem dX3_init_47 : decode cX3_init 47 = .ok (.new 9, 3) := by decide +kernel
theorem dX3_init_50 : decode cX3_init 50 = .ok (.dup, 1) := by decide +kernel
theorem dX3_init_51 : decode cX3_init 51 = .ok (.bipush 32, 2) := by decide +kernel
theorem dX3_init_53 : decode cX3_init 53 = .ok (.iconst 0, 1) := by decide +kernel
theorem dX3_init_54 : decode cX3_init 54 = .ok (.invokespecial 11, 3) := by decide +kernel
theorem dX3_init_57 : decode cX3_init 57 = .ok (.putfield 26, 3) := by decide +kernel
theorem dX3_init_60 : decode cX3_init 60 = .ok (.aload_n 0, 1) := by decide +kernel
theorem dX3_init_61 : decode cX3_init 61 = .ok (.new 9, 3) := by decide +kernel
theorem dX3_init_64 : decode cX3_init 64 = .ok (.dup, 1) := by decide +kernel
theorem dX3_init_65 : decode cX3_init 65 = .ok (.bipush 16, 2) := by decide +kernel
theorem dX3_init_67 : decode cX3_init 67 = .ok (.iconst (-1), 1) := by decide +kernel
theorem dX3_init_68 : decode cX3_init 68 = .ok (.invokespecial 11, 3) := by decide +kernel
theorem dX3_init_71 : decode cX3_init 71 = .ok (.putfield 29, 3) := by decide +kernel
theorem dX3_init_74 : decode cX3_init 74 = .ok (.aload_n 0, 1) := by decide +kernel
theorem dX3_init_75 : decode cX3_init 75 = .ok (.new 9, 3) := by decide +kernel
theorem dX3_init_78 : decode cX3_init 78 = .ok (.dup, 1) := by decide +kernel
theorem dX3_init_79 : decode cX3_init 79 = .ok (.bipush 16, 2) := by decide +kernel
theorem dX3_init_81 : decode cX3_init 81 = .ok (.iconst (-1), 1) := by decide +kernel
theorem dX3_init_82 : decode cX3_init 82 = .ok (.invokespecial 11, 3) := by decide +kernel
theorem dX3_init_85 : decode cX3_init 85 = .ok (.putfield 32, 3) := by decide +kernel
theorem dX3_init_88 : decode cX3_init 88 = .ok (.aload_n 0, 1) := by decide +kernel
theorem dX3_init_89 : decode cX3_init 89 = .ok (.new 9, 3) := by decide +kernel
theorem dX3_init_92 : decode cX3_init 92 = .ok (.dup, 1) := by decide +kernel
theorem dX3_init_93 : decode cX3_init 93 = .ok (.bipush 16, 2) := by decide +kernel
theorem dX3_init_95 : decode cX3_init 95 = .ok (.iconst (-1), 1) := by decide +kernel
theorem dX3_init_96 : decode cX3_init 96 = .ok (.invokespecial 11, 3) := by decide +kernel
theorem dX3_init_99 : decode cX3_init 99 = .ok (.putfield 35, 3) := by decide +kernel
theorem dX3_init_102 : decode cX3_init 102 = .ok (.aload_n 0, 1) := by decide +kernel
theorem dX3_init_103 : decode cX3_init 103 = .ok (.new 9, 3) := by decide +kernel
theorem dX3_init_106 : decode cX3_init 106 = .ok (.dup, 1) := by decide +kernel
theorem dX3_init_107 : decode cX3_init 107 = .ok (.bipush 64, 2) := by decide +kernel
theorem dX3_init_109 : decode cX3_init 109 = .ok (.iconst 0, 1) := by decide +kernel
theorem dX3_init_110 : decode cX3_init 110 = .ok (.invokespecial 11, 3) := by decide +kernel
theorem dX3_init_113 : decode cX3_init 113 = .ok (.putfield 38, 3) := by decide +kernel
theorem dX3_init_116 : decode cX3_init 116 = .ok (.aload_n 0, 1) := by decide +kernel
theorem dX3_init_117 : decode cX3_init 117 = .ok (.new 9, 3) := by decide +kernel
theorem dX3_init_120 : decode cX3_init 120 = .ok (.dup, 1) := by decide +kernel
theorem dX3_init_121 : decode cX3_init 121 = .ok (.bipush 64, 2) := by decide +kernel
theorem dX3_init_123 : decode cX3_init 123 = .ok (.iconst 0, 1) := by decide +kernel
theorem dX3_init_124 : decode cX3_init 124 = .ok (.invokespecial 11, 3) := by decide +kernel
theorem dX3_init_127 : decode cX3_init 127 = .ok (.putfield 41, 3) := by decide +kernel
theorem dX3_init_130 : decode cX3_init 130 = .ok (.return_, 1) := by decide +kernel
set_option maxRecDepth 20000 in
theorem ggX3_putTitle_X2_put : GoodIn wsX3_putTitle wsX2_put := goodIn_r _ [9, 10, 22] (by decide +kernel) (by decide +kernel)
set_option maxRecDepth 20000 in
theorem gX3_putTitle_X2_put : GoodIn wsX3_putTitle (wsV RX3 48 RX2 yX2_put wsX2_put) := goodIn_app (goodIn_of _ (by decide +kernel)) ggX3_putTitle_X2_put
theorem dX3_putTitle_0 : decode cX3_putTitle 0 = .ok (.aload_n 0, 1) := by decide +kernel
theorem dX3_putTitle_1 : decode cX3_putTitle 1 = .ok (.getfield 14, 3) := by decide +kernel
theorem dX3_putTitle_4 : decode cX3_putTitle 4 = .ok (.aload_n 0, 1) := by decide +kernel
theorem dX3_putTitle_5 : decode cX3_putTitle 5 = .ok (.getfield 44, 3) := by decide +kernel
theorem dX3_putTitle_8 : decode cX3_putTitle 8 = .ok (.iload_n 1, 1) := by decide +kernel
theorem dX3_putTitle_9 : decode cX3_putTitle 9 = .ok (.invokevirtual 48, 3) := by decide +kernel
theorem dX3_putTitle_12 : decode cX3_putTitle 12 = .ok (.aload_n 0, 1) := by decide +kernel
theorem dX3_putTitle_13 : decode cX3_putTitle 13 = .ok (.getfield 20, 3) := by decide +kernel
theorem dX3_putTitle_16 : decode cX3_putTitle 16 = .ok (.aload_n 0, 1) := by decide +kernel
theorem dX3_putTitle_17 : decode cX3_putTitle 17 = .ok (.getfield 44, 3) := by decide +kernel
theorem dX3_putTitle_20 : decode cX3_putTitle 20 = .ok (.iload_n 2, 1) := by decide +kernel
theorem dX3_putTitle_21 : decode cX3_putTitle 21 = .ok (.invokevirtual 48, 3) := by decide +kernel
theorem dX3_putTitle_24 : decode cX3_putTitle 24 = .ok (.aload_n 0, 1) := by decide +kernel
theorem dX3_putTitle_25 : decode cX3_putTitle 25 = .ok (.getfield 23, 3) := by decide +kernel
theorem dX3_putTitle_28 : decode cX3_putTitle 28 = .ok (.aload_n 0, 1) := by decide +kernel
theorem dX3_putTitle_29 : decode cX3_putTitle 29 = .ok (.getfield 44, 3) := by decide +kernel
theorem dX3_putTitle_32 : decode cX3_putTitle 32 = .ok (.iload_n 3, 1) := by decide +kernel
theorem dX3_putTitle_33 : decode cX3_putTitle 33 = .ok (.invokevirtual 48, 3) := by decide +kernel
theorem dX3_putTitle_36 : decode cX3_putTitle 36 = .ok (.aload_n 0, 1) := by decide +kernel
theorem dX3_putTitle_37 : decode cX3_putTitle 37 = .ok (.dup, 1) := by decide +kernel
theorem dX3_putTitle_38 : decode cX3_putTitle 38 = .ok (.getfield 44, 3) := by decide +kernel
theorem dX3_putTitle_41 : decode cX3_putTitle 41 = .ok (.iconst 1, 1) := by decide +kernel
theorem dX3_putTitle_42 : decode cX3_putTitle 42 = .ok (.iadd, 1) := by decide +kernel
theorem dX3_putTitle_43 : decode cX3_putTitle 43 = .ok (.putfield 44, 3) := by decide +kernel
theorem dX3_putTitle_46 : decode cX3_putTitle 46 = .ok (.aload_n 0, 1) := by decide +kernel
theorem dX3_putTitle_47 : decode cX3_putTitle 47 = .ok (.getfield 44, 3) := by decide +kernel
theorem dX3_putTitle_50 : decode cX3_putTitle 50 = .ok (.iconst 1, 1) := by decide +kernel
theorem dX3_putTitle_51 : decode cX3_putTitle 51 = .ok (.isub, 1) := by decide +kernel
theorem dX3_putTitle_52 : decode cX3_putTitle 52 = .ok (.ireturn, 1) := by decide +kernel
set_option maxRecDepth 20000 in
theorem ggX3_setFull_X2_put : GoodIn wsX3_setFull wsX2_put := goodIn_r _ [6, 7, 19] (by decide +kernel) (by decide +kernel)
set_option maxRecDepth 20000 in
theorem gX3_setFull_X2_put : GoodIn wsX3_setFull (wsV RX3 48 RX2 yX2_put wsX2_put) := goodIn_app (goodIn_of _ (by decide +kernel)) ggX3_setFull_X2_put
theorem dX3_setFull_0 : decode cX3_setFull 0 = .ok (.aload_n 0, 1) := by decide +kernel
theorem dX3_setFull_1 : decode cX3_setFull 1 = .ok (.getfield 26, 3) := by decide +kernel
theorem dX3_setFull_4 : decode cX3_setFull 4 = .ok (.iload_n 1, 1) := by decide +kernel
theorem dX3_setFull_5 : decode cX3_setFull 5 = .ok (.iconst 4, 1) := by decide +kernel
theorem dX3_setFull_6 : decode cX3_setFull 6 = .ok (.imul, 1) := by decide +kernel
theorem dX3_setFull_7 : decode cX3_setFull 7 = .ok (.iload_n 2, 1) := by decide +kernel
theorem dX3_setFull_8 : decode cX3_setFull 8 = .ok (.iadd, 1) := by decide +kernel
theorem dX3_setFull_9 : decode cX3_setFull 9 = .ok (.iload_n 3, 1) := by decide +kernel
theorem dX3_setFull_10 : decode cX3_setFull 10 = .ok (.invokevirtual 48, 3) := by decide +kernel
theorem dX3_setFull_13 : decode cX3_setFull 13 = .ok (.return_, 1) := by decide +kernel
set_option maxRecDepth 20000 in
theorem ggX3_putCopy_X2_put : GoodIn wsX3_putCopy wsX2_put := goodIn_r _ [9, 10, 26] (by decide +kernel) (by decide +kernel)
set_option maxRecDepth 20000 in
theorem gX3_putCopy_X2_put : GoodIn wsX3_putCopy (wsV RX3 48 RX2 yX2_put wsX2_put) := goodIn_app (goodIn_of _ (by decide +kernel)) ggX3_putCopy_X2_put
set_option maxRecDepth 20000 in
theorem ggX3_putCopy_X2_at : GoodIn wsX3_putCopy wsX2_at := goodIn_r _ [14, 10, 26] (by decide +kernel) (by decide +kernel)
set_option maxRecDepth 20000 in
theorem gX3_putCopy_X2_at : GoodIn wsX3_putCopy (wsV RX3 54 RX2 yX2_at wsX2_at) := goodIn_app (goodIn_of _ (by decide +kernel)) ggX3_putCopy_X2_at
theorem dX3_putCopy_0 : decode cX3_putCopy 0 = .ok (.aload_n 0, 1) := by decide +kernel
theorem dX3_putCopy_1 : decode cX3_putCopy 1 = .ok (.getfield 51, 3) := by decide +kernel
theorem dX3_putCopy_4 : decode cX3_putCopy 4 = .ok (.istore_n 2, 1) := by decide +kernel
theorem dX3_putCopy_5 : decode cX3_putCopy 5 = .ok (.aload_n 0, 1) := by decide +kernel
theorem dX3_putCopy_6 : decode cX3_putCopy 6 = .ok (.dup, 1) := by decide +kernel
theorem dX3_putCopy_7 : decode cX3_putCopy 7 = .ok (.getfield 51, 3) := by decide +kernel
theorem dX3_putCopy_10 : decode cX3_putCopy 10 = .ok (.iconst 1, 1) := by decide +kernel
theorem dX3_putCopy_11 : decode cX3_putCopy 11 = .ok (.iadd, 1) := by decide +kernel
theorem dX3_putCopy_12 : decode cX3_putCopy 12 = .ok (.putfield 51, 3) := by decide +kernel
theorem dX3_putCopy_15 : decode cX3_putCopy 15 = .ok (.aload_n 0, 1) := by decide +kernel
theorem dX3_putCopy_16 : decode cX3_putCopy 16 = .ok (.getfield 29, 3) := by decide +kernel
theorem dX3_putCopy_19 : decode cX3_putCopy 19 = .ok (.iload_n 2, 1) := by decide +kernel
theorem dX3_putCopy_20 : decode cX3_putCopy 20 = .ok (.iload_n 1, 1) := by decide +kernel
theorem dX3_putCopy_21 : decode cX3_putCopy 21 = .ok (.invokevirtual 48, 3) := by decide +kernel
theorem dX3_putCopy_24 : decode cX3_putCopy 24 = .ok (.iconst 0, 1) := by decide +kernel
theorem dX3_putCopy_25 : decode cX3_putCopy 25 = .ok (.istore_n 3, 1) := by decide +kernel
theorem dX3_putCopy_26 : decode cX3_putCopy 26 = .ok (.iload_n 3, 1) := by decide +kernel
theorem dX3_putCopy_27 : decode cX3_putCopy 27 = .ok (.iconst 4, 1) := by decide +kernel
theorem dX3_putCopy_28 : decode cX3_putCopy 28 = .ok (.if_icmp .ge 33, 3) := by decide +kernel
theorem dX3_putCopy_31 : decode cX3_putCopy 31 = .ok (.aload_n 0, 1) := by decide +kernel
theorem dX3_putCopy_32 : decode cX3_putCopy 32 = .ok (.getfield 41, 3) := by decide +kernel
theorem dX3_putCopy_35 : decode cX3_putCopy 35 = .ok (.iload_n 2, 1) := by decide +kernel
theorem dX3_putCopy_36 : decode cX3_putCopy 36 = .ok (.iconst 4, 1) := by decide +kernel
theorem dX3_putCopy_37 : decode cX3_putCopy 37 = .ok (.imul, 1) := by decide +kernel
theorem dX3_putCopy_38 : decode cX3_putCopy 38 = .ok (.iload_n 3, 1) := by decide +kernel
theorem dX3_putCopy_39 : decode cX3_putCopy 39 = .ok (.iadd, 1) := by decide +kernel
theorem dX3_putCopy_40 : decode cX3_putCopy 40 = .ok (.aload_n 0, 1) := by decide +kernel
theorem dX3_putCopy_41 : decode cX3_putCopy 41 = .ok (.getfield 26, 3) := by decide +kernel
theorem dX3_putCopy_44 : decode cX3_putCopy 44 = .ok (.iload_n 1, 1) := by decide +kernel
theorem dX3_putCopy_45 : decode cX3_putCopy 45 = .ok (.iconst 4, 1) := by decide +kernel
theorem dX3_putCopy_46 : decode cX3_putCopy 46 = .ok (.imul, 1) := by decide +kernel
theorem dX3_putCopy_47 : decode cX3_putCopy 47 = .ok (.iload_n 3, 1) := by decide +kernel
theorem dX3_putCopy_48 : decode cX3_putCopy 48 = .ok (.iadd, 1) := by decide +kernel
theorem dX3_putCopy_49 : decode cX3_putCopy 49 = .ok (.invokevirtual 54, 3) := by decide +kernel
theorem dX3_putCopy_52 : decode cX3_putCopy 52 = .ok (.invokevirtual 48, 3) := by decide +kernel
theorem dX3_putCopy_55 : decode cX3_putCopy 55 = .ok (.iinc 3 1, 3) := by decide +kernel
theorem dX3_putCopy_58 : decode cX3_putCopy 58 = .ok (.goto (-32), 3) := by decide +kernel
theorem dX3_putCopy_61 : decode cX3_putCopy 61 = .ok (.iload_n 2, 1) := by decide +kernel
theorem dX3_putCopy_62 : decode cX3_putCopy 62 = .ok (.ireturn, 1) := by decide +kernel
set_option maxRecDepth 20000 in
theorem ggX3_heldBy_X2_at : GoodIn wsX3_heldBy wsX2_at := goodIn_r _ [7, 8, 20] (by decide +kernel) (by decide +kernel)
set_option maxRecDepth 20000 in
theorem gX3_heldBy_X2_at : GoodIn wsX3_heldBy (wsV RX3 54 RX2 yX2_at wsX2_at) := goodIn_app (goodIn_of _ (by decide +kernel)) ggX3_heldBy_X2_at
theorem dX3_heldBy_0 : decode cX3_heldBy 0 = .ok (.iconst 0, 1) := by decide +kernel
theorem dX3_heldBy_1 : decode cX3_heldBy 1 = .ok (.istore_n 2, 1) := by decide +kernel
theorem dX3_heldBy_2 : decode cX3_heldBy 2 = .ok (.iload_n 2, 1) := by decide +kernel
theorem dX3_heldBy_3 : decode cX3_heldBy 3 = .ok (.aload_n 0, 1) := by decide +kernel
theorem dX3_heldBy_4 : decode cX3_heldBy 4 = .ok (.getfield 51, 3) := by decide +kernel
theorem dX3_heldBy_7 : decode cX3_heldBy 7 = .ok (.if_icmp .ge 23, 3) := by decide +kernel
theorem dX3_heldBy_10 : decode cX3_heldBy 10 = .ok (.aload_n 0, 1) := by decide +kernel
theorem dX3_heldBy_11 : decode cX3_heldBy 11 = .ok (.getfield 32, 3) := by decide +kernel
theorem dX3_heldBy_14 : decode cX3_heldBy 14 = .ok (.iload_n 2, 1) := by decide +kernel
theorem dX3_heldBy_15 : decode cX3_heldBy 15 = .ok (.invokevirtual 54, 3) := by decide +kernel
theorem dX3_heldBy_18 : decode cX3_heldBy 18 = .ok (.iload_n 1, 1) := by decide +kernel
theorem dX3_heldBy_19 : decode cX3_heldBy 19 = .ok (.if_icmp .ne 5, 3) := by decide +kernel
theorem dX3_heldBy_22 : decode cX3_heldBy 22 = .ok (.iload_n 2, 1) := by decide +kernel
theorem dX3_heldBy_23 : decode cX3_heldBy 23 = .ok (.ireturn, 1) := by decide +kernel
theorem dX3_heldBy_24 : decode cX3_heldBy 24 = .ok (.iinc 2 1, 3) := by decide +kernel
theorem dX3_heldBy_27 : decode cX3_heldBy 27 = .ok (.goto (-25), 3) := by decide +kernel
theorem dX3_heldBy_30 : decode cX3_heldBy 30 = .ok (.iconst (-1), 1) := by decide +kernel
theorem dX3_heldBy_31 : decode cX3_heldBy 31 = .ok (.ireturn, 1) := by decide +kernel
set_option maxRecDepth 20000 in
theorem ggX3_place_X2_at : GoodIn wsX3_place wsX2_at := goodIn_r _ [7, 8, 20] (by decide +kernel) (by decide +kernel)
set_option maxRecDepth 20000 in
theorem gX3_place_X2_at : GoodIn wsX3_place (wsV RX3 54 RX2 yX2_at wsX2_at) := goodIn_app (goodIn_of _ (by decide +kernel)) ggX3_place_X2_at
theorem dX3_place_0 : decode cX3_place 0 = .ok (.aload_n 0, 1) := by decide +kernel
theorem dX3_place_1 : decode cX3_place 1 = .ok (.getfield 32, 3) := by decide +kernel
theorem dX3_place_4 : decode cX3_place 4 = .ok (.iload_n 1, 1) := by decide +kernel
theorem dX3_place_5 : decode cX3_place 5 = .ok (.invokevirtual 54, 3) := by decide +kernel
theorem dX3_place_8 : decode cX3_place 8 = .ok (.iconst (-1), 1) := by decide +kernel
theorem dX3_place_9 : decode cX3_place 9 = .ok (.if_icmp .eq 5, 3) := by decide +kernel
theorem dX3_place_12 : decode cX3_place 12 = .ok (.iconst 1, 1) := by decide +kernel
theorem dX3_place_13 : decode cX3_place 13 = .ok (.ireturn, 1) := by decide +kernel
theorem dX3_place_14 : decode cX3_place 14 = .ok (.aload_n 0, 1) := by decide +kernel
theorem dX3_place_15 : decode cX3_place 15 = .ok (.getfield 35, 3) := by decide +kernel
theorem dX3_place_18 : decode cX3_place 18 = .ok (.iload_n 1, 1) := by decide +kernel
theorem dX3_place_19 : decode cX3_place 19 = .ok (.invokevirtual 54, 3) := by decide +kernel
theorem dX3_place_22 : decode cX3_place 22 = .ok (.iconst (-1), 1) := by decide +kernel
theorem dX3_place_23 : decode cX3_place 23 = .ok (.if_icmp .eq 7, 3) := by decide +kernel
theorem dX3_place_26 : decode cX3_place 26 = .ok (.iconst 2, 1) := by decide +kernel
theorem dX3_place_27 : decode cX3_place 27 = .ok (.goto 4, 3) := by decide +kernel
theorem dX3_place_30 : decode cX3_place 30 = .ok (.iconst 0, 1) := by decide +kernel
theorem dX3_place_31 : decode cX3_place 31 = .ok (.ireturn, 1) := by decide +kernel
set_option maxRecDepth 20000 in
theorem ggX3_count_X2_at : GoodIn wsX3_count wsX2_at := goodIn_r _ [6, 7, 19] (by decide +kernel) (by decide +kernel)
set_option maxRecDepth 20000 in
theorem gX3_count_X2_at : GoodIn wsX3_count (wsV RX3 54 RX2 yX2_at wsX2_at) := goodIn_app (goodIn_of _ (by decide +kernel)) ggX3_count_X2_at
theorem dX3_count_0 : decode cX3_count 0 = .ok (.aload_n 0, 1) := by decide +kernel
theorem dX3_count_1 : decode cX3_count 1 = .ok (.getfield 41, 3) := by decide +kernel
theorem dX3_count_4 : decode cX3_count 4 = .ok (.iload_n 1, 1) := by decide +kernel
theorem dX3_count_5 : decode cX3_count 5 = .ok (.iconst 4, 1) := by decide +kernel
theorem dX3_count_6 : decode cX3_count 6 = .ok (.imul, 1) := by decide +kernel
theorem dX3_count_7 : decode cX3_count 7 = .ok (.iload_n 2, 1) := by decide +kernel
theorem dX3_count_8 : decode cX3_count 8 = .ok (.iadd, 1) := by decide +kernel
theorem dX3_count_9 : decode cX3_count 9 = .ok (.invokevirtual 54, 3) := by decide +kernel
theorem dX3_count_12 : decode cX3_count 12 = .ok (.ireturn, 1) := by decide +kernel
set_option maxRecDepth 20000 in
theorem ggX3_lack_X2_at : GoodIn wsX3_lack wsX2_at := goodIn_r _ [8, 9, 21] (by decide +kernel) (by decide +kernel)
set_option maxRecDepth 20000 in
theorem gX3_lack_X2_at : GoodIn wsX3_lack (wsV RX3 54 RX2 yX2_at wsX2_at) := goodIn_app (goodIn_of _ (by decide +kernel)) ggX3_lack_X2_at
theorem dX3_lack_0 : decode cX3_lack 0 = .ok (.aload_n 0, 1) := by decide +kernel
theorem dX3_lack_1 : decode cX3_lack 1 = .ok (.getfield 26, 3) := by decide +kernel
theorem dX3_lack_4 : decode cX3_lack 4 = .ok (.aload_n 0, 1) := by decide +kernel
theorem dX3_lack_5 : decode cX3_lack 5 = .ok (.getfield 29, 3) := by decide +kernel
theorem dX3_lack_8 : decode cX3_lack 8 = .ok (.iload_n 1, 1) := by decide +kernel
theorem dX3_lack_9 : decode cX3_lack 9 = .ok (.invokevirtual 54, 3) := by decide +kernel
theorem dX3_lack_12 : decode cX3_lack 12 = .ok (.iconst 4, 1) := by decide +kernel
theorem dX3_lack_13 : decode cX3_lack 13 = .ok (.imul, 1) := by decide +kernel
theorem dX3_lack_14 : decode cX3_lack 14 = .ok (.iload_n 2, 1) := by decide +kernel
theorem dX3_lack_15 : decode cX3_lack 15 = .ok (.iadd, 1) := by decide +kernel
theorem dX3_lack_16 : decode cX3_lack 16 = .ok (.invokevirtual 54, 3) := by decide +kernel
theorem dX3_lack_19 : decode cX3_lack 19 = .ok (.aload_n 0, 1) := by decide +kernel
theorem dX3_lack_20 : decode cX3_lack 20 = .ok (.getfield 41, 3) := by decide +kernel
theorem dX3_lack_23 : decode cX3_lack 23 = .ok (.iload_n 1, 1) := by decide +kernel
theorem dX3_lack_24 : decode cX3_lack 24 = .ok (.iconst 4, 1) := by decide +kernel
theorem dX3_lack_25 : decode cX3_lack 25 = .ok (.imul, 1) := by decide +kernel
theorem dX3_lack_26 : decode cX3_lack 26 = .ok (.iload_n 2, 1) := by decide +kernel
theorem dX3_lack_27 : decode cX3_lack 27 = .ok (.iadd, 1) := by decide +kernel
theorem dX3_lack_28 : decode cX3_lack 28 = .ok (.invokevirtual 54, 3) := by decide +kernel
theorem dX3_lack_31 : decode cX3_lack 31 = .ok (.isub, 1) := by decide +kernel
theorem dX3_lack_32 : decode cX3_lack 32 = .ok (.ireturn, 1) := by decide +kernel
set_option maxRecDepth 20000 in
theorem ggX3_change_X3_count : GoodIn wsX3_change wsX3_count := goodIn_r _ [6, 1, 7, 8, 9, 10, 11, 12, 17, 18, 19, 20, 21, 22, 23, 24, 25, 26, 27, 28] (by decide +kernel) (by decide +kernel)
set_option maxRecDepth 20000 in
theorem gX3_change_X3_count : GoodIn wsX3_change (wsV RX3 58 RX3 yX3_count wsX3_count) := goodIn_app (goodIn_of _ (by decide +kernel)) ggX3_change_X3_count
set_option maxRecDepth 20000 in
theorem ggX3_change_X2_put : GoodIn wsX3_change wsX2_put := goodIn_r _ [16, 12, 28] (by decide +kernel) (by decide +kernel)
set_option maxRecDepth 20000 in
theorem gX3_change_X2_put : GoodIn wsX3_change (wsV RX3 48 RX2 yX2_put wsX2_put) := goodIn_app (goodIn_of _ (by decide +kernel)) ggX3_change_X2_put
theorem dX3_change_0 : decode cX3_change 0 = .ok (.aload_n 0, 1) := by decide +kernel
theorem dX3_change_1 : decode cX3_change 1 = .ok (.getfield 41, 3) := by decide +kernel
theorem dX3_change_4 : decode cX3_change 4 = .ok (.iload_n 1, 1) := by decide +kernel
theorem dX3_change_5 : decode cX3_change 5 = .ok (.iconst 4, 1) := by decide +kernel
theorem dX3_change_6 : decode cX3_change 6 = .ok (.imul, 1) := by decide +kernel
theorem dX3_change_7 : decode cX3_change 7 = .ok (.iload_n 2, 1) := by decide +kernel
theorem dX3_change_8 : decode cX3_change 8 = .ok (.iadd, 1) := by decide +kernel
theorem dX3_change_9 : decode cX3_change 9 = .ok (.aload_n 0, 1) := by decide +kernel
theorem dX3_change_10 : decode cX3_change 10 = .ok (.iload_n 1, 1) := by decide +kernel
theorem dX3_change_11 : decode cX3_change 11 = .ok (.iload_n 2, 1) := by decide +kernel
theorem dX3_change_12 : decode cX3_change 12 = .ok (.invokevirtual 58, 3) := by decide +kernel
theorem dX3_change_15 : decode cX3_change 15 = .ok (.iload_n 3, 1) := by decide +kernel
theorem dX3_change_16 : decode cX3_change 16 = .ok (.iadd, 1) := by decide +kernel
theorem dX3_change_17 : decode cX3_change 17 = .ok (.invokevirtual 48, 3) := by decide +kernel
theorem dX3_change_20 : decode cX3_change 20 = .ok (.return_, 1) := by decide +kernel
set_option maxRecDepth 20000 in
theorem ggX3_suits_X2_at : GoodIn wsX3_suits wsX2_at := goodIn_r _ [8, 9, 21] (by decide +kernel) (by decide +kernel)
set_option maxRecDepth 20000 in
theorem gX3_suits_X2_at : GoodIn wsX3_suits (wsV RX3 54 RX2 yX2_at wsX2_at) := goodIn_app (goodIn_of _ (by decide +kernel)) ggX3_suits_X2_at
theorem dX3_suits_0 : decode cX3_suits 0 = .ok (.iload_n 2, 1) := by decide +kernel
theorem dX3_suits_1 : decode cX3_suits 1 = .ok (.aload_n 0, 1) := by decide +kernel
theorem dX3_suits_2 : decode cX3_suits 2 = .ok (.getfield 14, 3) := by decide +kernel
theorem dX3_suits_5 : decode cX3_suits 5 = .ok (.iload_n 1, 1) := by decide +kernel
theorem dX3_suits_6 : decode cX3_suits 6 = .ok (.invokevirtual 54, 3) := by decide +kernel
theorem dX3_suits_9 : decode cX3_suits 9 = .ok (.if_icmp .lt 31, 3) := by decide +kernel
theorem dX3_suits_12 : decode cX3_suits 12 = .ok (.iload_n 2, 1) := by decide +kernel
theorem dX3_suits_13 : decode cX3_suits 13 = .ok (.aload_n 0, 1) := by decide +kernel
theorem dX3_suits_14 : decode cX3_suits 14 = .ok (.getfield 20, 3) := by decide +kernel
theorem dX3_suits_17 : decode cX3_suits 17 = .ok (.iload_n 1, 1) := by decide +kernel
theorem dX3_suits_18 : decode cX3_suits 18 = .ok (.invokevirtual 54, 3) := by decide +kernel
theorem dX3_suits_21 : decode cX3_suits 21 = .ok (.if_icmp .gt 19, 3) := by decide +kernel
theorem dX3_suits_24 : decode cX3_suits 24 = .ok (.iload_n 3, 1) := by decide +kernel
theorem dX3_suits_25 : decode cX3_suits 25 = .ok (.aload_n 0, 1) := by decide +kernel
theorem dX3_suits_26 : decode cX3_suits 26 = .ok (.getfield 23, 3) := by decide +kernel
theorem dX3_suits_29 : decode cX3_suits 29 = .ok (.iload_n 1, 1) := by decide +kernel
theorem dX3_suits_30 : decode cX3_suits 30 = .ok (.invokevirtual 54, 3) := by decide +kernel
theorem dX3_suits_33 : decode cX3_suits 33 = .ok (.if_icmp .lt 7, 3) := by decide +kernel
theorem dX3_suits_36 : decode cX3_suits 36 = .ok (.iconst 1, 1) := by decide +kernel
theorem dX3_suits_37 : decode cX3_suits 37 = .ok (.goto 4, 3) := by decide +kernel
theorem dX3_suits_40 : decode cX3_suits 40 = .ok (.iconst 0, 1) := by decide +kernel
theorem dX3_suits_41 : decode cX3_suits 41 = .ok (.ireturn, 1) := by decide +kernel
set_option maxRecDepth 20000 in
theorem ggX3_titleInPlace_X4_contains : GoodIn wsX3_titleInPlace wsX4_contains := goodIn_r _ [4] (by decide +kernel) (by decide +kernel)
set_option maxRecDepth 20000 in
theorem gX3_titleInPlace_X4_contains_n62 : GoodIn wsX3_titleInPlace (wsX4_contains) := ggX3_titleInPlace_X4_contains
set_option maxRecDepth 20000 in
theorem ggX3_titleInPlace_X3_countAhead : GoodIn wsX3_titleInPlace wsX3_countAhead := goodIn_r _ [9, 1, 10, 11, 12, 13, 14, 15, 16, 2, 3, 4, 17, 18, 19, 20, 21, 22, 23, 24, 25, 26, 27, 28] (by decide +kernel) (by decide +kernel)
set_option maxRecDepth 20000 in
theorem gX3_titleInPlace_X3_countAhead : GoodIn wsX3_titleInPlace (wsV RX3 66 RX3 yX3_countAhead wsX3_countAhead) := goodIn_app (goodIn_of _ (by decide +kernel)) ggX3_titleInPlace_X3_countAhead
theorem dX3_titleInPlace_0 : decode cX3_titleInPlace 0 = .ok (.iconst 0, 1) := by decide +kernel
theorem dX3_titleInPlace_1 : decode cX3_titleInPlace 1 = .ok (.istore_n 3, 1) := by decide +kernel
theorem dX3_titleInPlace_2 : decode cX3_titleInPlace 2 = .ok (.iload_n 3, 1) := by decide +kernel
theorem dX3_titleInPlace_3 : decode cX3_titleInPlace 3 = .ok (.aload_n 0, 1) := by decide +kernel
theorem dX3_titleInPlace_4 : decode cX3_titleInPlace 4 = .ok (.getfield 44, 3) := by decide +kernel
theorem dX3_titleInPlace_7 : decode cX3_titleInPlace 7 = .ok (.if_icmp .ge 29, 3) := by decide +kernel
theorem dX3_titleInPlace_10 : decode cX3_titleInPlace 10 = .ok (.iload_n 1, 1) := by decide +kernel
theorem dX3_titleInPlace_11 : decode cX3_titleInPlace 11 = .ok (.iload_n 3, 1) := by decide +kernel
theorem dX3_titleInPlace_12 : decode cX3_titleInPlace 12 = .ok (.invokestatic 62, 3) := by decide +kernel
theorem dX3_titleInPlace_15 : decode cX3_titleInPlace 15 = .ok (.ifCond .eq 15, 3) := by decide +kernel
theorem dX3_titleInPlace_18 : decode cX3_titleInPlace 18 = .ok (.aload_n 0, 1) := by decide +kernel
theorem dX3_titleInPlace_19 : decode cX3_titleInPlace 19 = .ok (.iload_n 1, 1) := by decide +kernel
theorem dX3_titleInPlace_20 : decode cX3_titleInPlace 20 = .ok (.iload_n 3, 1) := by decide +kernel
theorem dX3_titleInPlace_21 : decode cX3_titleInPlace 21 = .ok (.invokevirtual 66, 3) := by decide +kernel
theorem dX3_titleInPlace_24 : decode cX3_titleInPlace 24 = .ok (.iload_n 2, 1) := by decide +kernel
theorem dX3_titleInPlace_25 : decode cX3_titleInPlace 25 = .ok (.if_icmp .ne 5, 3) := by decide +kernel
theorem dX3_titleInPlace_28 : decode cX3_titleInPlace 28 = .ok (.iload_n 3, 1) := by decide +kernel
theorem dX3_titleInPlace_29 : decode cX3_titleInPlace 29 = .ok (.ireturn, 1) := by decide +kernel
theorem dX3_titleInPlace_30 : decode cX3_titleInPlace 30 = .ok (.iinc 3 1, 3) := by decide +kernel
theorem dX3_titleInPlace_33 : decode cX3_titleInPlace 33 = .ok (.goto (-31), 3) := by decide +kernel
theorem dX3_titleInPlace_36 : decode cX3_titleInPlace 36 = .ok (.iconst (-1), 1) := by decide +kernel
theorem dX3_titleInPlace_37 : decode cX3_titleInPlace 37 = .ok (.ireturn, 1) := by decide +kernel
set_option maxRecDepth 20000 in
theorem ggX3_countAhead_X2_at : GoodIn wsX3_countAhead wsX2_at := goodIn_r _ [7, 8, 23] (by decide +kernel) (by decide +kernel)
end
section
set_option maxRecDepth 20000 in
theorem gX3_countAhead_X2_at : GoodIn wsX3_countAhead (wsV RX3 54 RX2 yX2_at wsX2_at) := goodIn_app (goodIn_of _ (by decide +kernel)) ggX3_countAhead_X2_at
set_option maxRecDepth 20000 in
theorem ggX3_countAhead_X4_contains : GoodIn wsX3_countAhead wsX4_contains := goodIn_r _ [11] (by decide +kernel) (by decide +kernel)
set_option maxRecDepth 20000 in
theorem gX3_countAhead_X4_contains_n62 : GoodIn wsX3_countAhead (wsX4_contains) := ggX3_countAhead_X4_contains
theorem dX3_countAhead_0 : decode cX3_countAhead 0 = .ok (.iconst 0, 1) := by decide +kernel
theorem dX3_countAhead_1 : decode cX3_countAhead 1 = .ok (.istore_n 3, 1) := by decide +kernel
theorem dX3_countAhead_2 : decode cX3_countAhead 2 = .ok (.iconst 0, 1) := by decide +kernel
theorem dX3_countAhead_3 : decode cX3_countAhead 3 = .ok (.istore 4, 2) := by decide +kernel
theorem dX3_countAhead_5 : decode cX3_countAhead 5 = .ok (.iload 4, 2) := by decide +kernel
theorem dX3_countAhead_7 : decode cX3_countAhead 7 = .ok (.aload_n 0, 1) := by decide +kernel
theorem dX3_countAhead_8 : decode cX3_countAhead 8 = .ok (.getfield 44, 3) := by decide +kernel
theorem dX3_countAhead_11 : decode cX3_countAhead 11 = .ok (.if_icmp .ge 57, 3) := by decide +kernel
theorem dX3_countAhead_14 : decode cX3_countAhead 14 = .ok (.aload_n 0, 1) := by decide +kernel
theorem dX3_countAhead_15 : decode cX3_countAhead 15 = .ok (.getfield 23, 3) := by decide +kernel
theorem dX3_countAhead_18 : decode cX3_countAhead 18 = .ok (.iload 4, 2) := by decide +kernel
theorem dX3_countAhead_20 : decode cX3_countAhead 20 = .ok (.invokevirtual 54, 3) := by decide +kernel
theorem dX3_countAhead_23 : decode cX3_countAhead 23 = .ok (.aload_n 0, 1) := by decide +kernel
theorem dX3_countAhead_24 : decode cX3_countAhead 24 = .ok (.getfield 23, 3) := by decide +kernel
theorem dX3_countAhead_27 : decode cX3_countAhead 27 = .ok (.iload_n 2, 1) := by decide +kernel
theorem dX3_countAhead_28 : decode cX3_countAhead 28 = .ok (.invokevirtual 54, 3) := by decide +kernel
theorem dX3_countAhead_31 : decode cX3_countAhead 31 = .ok (.isub, 1) := by decide +kernel
theorem dX3_countAhead_32 : decode cX3_countAhead 32 = .ok (.istore 5, 2) := by decide +kernel
theorem dX3_countAhead_34 : decode cX3_countAhead 34 = .ok (.iload_n 1, 1) := by decide +kernel
theorem dX3_countAhead_35 : decode cX3_countAhead 35 = .ok (.iload 4, 2) := by decide +kernel
theorem dX3_countAhead_37 : decode cX3_countAhead 37 = .ok (.invokestatic 62, 3) := by decide +kernel
theorem dX3_countAhead_40 : decode cX3_countAhead 40 = .ok (.ifCond .eq 22, 3) := by decide +kernel
theorem dX3_countAhead_43 : decode cX3_countAhead 43 = .ok (.iload 5, 2) := by decide +kernel
theorem dX3_countAhead_45 : decode cX3_countAhead 45 = .ok (.ifCond .gt 14, 3) := by decide +kernel
theorem dX3_countAhead_48 : decode cX3_countAhead 48 = .ok (.iload 5, 2) := by decide +kernel
theorem dX3_countAhead_50 : decode cX3_countAhead 50 = .ok (.ifCond .ne 12, 3) := by decide +kernel
theorem dX3_countAhead_53 : decode cX3_countAhead 53 = .ok (.iload 4, 2) := by decide +kernel
theorem dX3_countAhead_55 : decode cX3_countAhead 55 = .ok (.iload_n 2, 1) := by decide +kernel
theorem dX3_countAhead_56 : decode cX3_countAhead 56 = .ok (.if_icmp .ge 6, 3) := by decide +kernel
theorem dX3_countAhead_59 : decode cX3_countAhead 59 = .ok (.iinc 3 1, 3) := by decide +kernel
theorem dX3_countAhead_62 : decode cX3_countAhead 62 = .ok (.iinc 4 1, 3) := by decide +kernel
theorem dX3_countAhead_65 : decode cX3_countAhead 65 = .ok (.goto (-60), 3) := by decide +kernel
theorem dX3_countAhead_68 : decode cX3_countAhead 68 = .ok (.iload_n 3, 1) := by decide +kernel
theorem dX3_countAhead_69 : decode cX3_countAhead 69 = .ok (.ireturn, 1) := by decide +kernel
set_option maxRecDepth 20000 in
theorem ggX3_bestCopy_X2_at : GoodIn wsX3_bestCopy wsX2_at := goodIn_r _ [7, 8, 56] (by decide +kernel) (by decide +kernel)
set_option maxRecDepth 20000 in
theorem gX3_bestCopy_X2_at : GoodIn wsX3_bestCopy (wsV RX3 54 RX2 yX2_at wsX2_at) := goodIn_app (goodIn_of _ (by decide +kernel)) ggX3_bestCopy_X2_at
set_option maxRecDepth 20000 in
theorem ggX3_bestCopy_X3_countLenders : GoodIn wsX3_bestCopy wsX3_countLenders := goodIn_r _ [13, 1, 14, 15, 16, 17, 18, 19, 20, 12, 21, 22, 23, 3, 4, 5, 6, 7, 8, 24, 25, 26, 27, 28, 2, 29, 30, 31, 32, 33, 34, 35, 36, 37, 38, 39, 40, 41, 42, 43, 44, 45, 46, 47, 48, 49, 50, 51, 52, 53, 54, 55, 56] (by decide +kernel) (by decide +kernel)
set_option maxRecDepth 20000 in
theorem gX3_bestCopy_X3_countLenders : GoodIn wsX3_bestCopy (wsV RX3 69 RX3 yX3_countLenders wsX3_countLenders) := goodIn_app (goodIn_of _ (by decide +kernel)) ggX3_bestCopy_X3_countLenders
theorem dX3_bestCopy_0 : decode cX3_bestCopy 0 = .ok (.iconst (-1), 1) := by decide +kernel
theorem dX3_bestCopy_1 : decode cX3_bestCopy 1 = .ok (.istore_n 2, 1) := by decide +kernel
theorem dX3_bestCopy_2 : decode cX3_bestCopy 2 = .ok (.bipush 16, 2) := by decide +kernel
theorem dX3_bestCopy_4 : decode cX3_bestCopy 4 = .ok (.istore_n 3, 1) := by decide +kernel
theorem dX3_bestCopy_5 : decode cX3_bestCopy 5 = .ok (.iconst 0, 1) := by decide +kernel
theorem dX3_bestCopy_6 : decode cX3_bestCopy 6 = .ok (.istore 4, 2) := by decide +kernel
theorem dX3_bestCopy_8 : decode cX3_bestCopy 8 = .ok (.iload 4, 2) := by decide +kernel
theorem dX3_bestCopy_10 : decode cX3_bestCopy 10 = .ok (.aload_n 0, 1) := by decide +kernel
theorem dX3_bestCopy_11 : decode cX3_bestCopy 11 = .ok (.getfield 51, 3) := by decide +kernel
theorem dX3_bestCopy_14 : decode cX3_bestCopy 14 = .ok (.if_icmp .ge 52, 3) := by decide +kernel
theorem dX3_bestCopy_17 : decode cX3_bestCopy 17 = .ok (.aload_n 0, 1) := by decide +kernel
theorem dX3_bestCopy_18 : decode cX3_bestCopy 18 = .ok (.getfield 29, 3) := by decide +kernel
theorem dX3_bestCopy_21 : decode cX3_bestCopy 21 = .ok (.iload 4, 2) := by decide +kernel
theorem dX3_bestCopy_23 : decode cX3_bestCopy 23 = .ok (.invokevirtual 54, 3) := by decide +kernel
theorem dX3_bestCopy_26 : decode cX3_bestCopy 26 = .ok (.iload_n 1, 1) := by decide +kernel
theorem dX3_bestCopy_27 : decode cX3_bestCopy 27 = .ok (.if_icmp .ne 12, 3) := by decide +kernel
theorem dX3_bestCopy_30 : decode cX3_bestCopy 30 = .ok (.aload_n 0, 1) := by decide +kernel
theorem dX3_bestCopy_31 : decode cX3_bestCopy 31 = .ok (.iload 4, 2) := by decide +kernel
theorem dX3_bestCopy_33 : decode cX3_bestCopy 33 = .ok (.invokevirtual 69, 3) := by decide +kernel
theorem dX3_bestCopy_36 : decode cX3_bestCopy 36 = .ok (.goto 4, 3) := by decide +kernel
theorem dX3_bestCopy_39 : decode cX3_bestCopy 39 = .ok (.iconst (-1), 1) := by decide +kernel
theorem dX3_bestCopy_40 : decode cX3_bestCopy 40 = .ok (.istore 5, 2) := by decide +kernel
theorem dX3_bestCopy_42 : decode cX3_bestCopy 42 = .ok (.iload 5, 2) := by decide +kernel
theorem dX3_bestCopy_44 : decode cX3_bestCopy 44 = .ok (.iconst (-1), 1) := by decide +kernel
theorem dX3_bestCopy_45 : decode cX3_bestCopy 45 = .ok (.if_icmp .eq 15, 3) := by decide +kernel
theorem dX3_bestCopy_48 : decode cX3_bestCopy 48 = .ok (.iload 5, 2) := by decide +kernel
theorem dX3_bestCopy_50 : decode cX3_bestCopy 50 = .ok (.iload_n 3, 1) := by decide +kernel
theorem dX3_bestCopy_51 : decode cX3_bestCopy 51 = .ok (.if_icmp .ge 9, 3) := by decide +kernel
theorem dX3_bestCopy_54 : decode cX3_bestCopy 54 = .ok (.iload 4, 2) := by decide +kernel
theorem dX3_bestCopy_56 : decode cX3_bestCopy 56 = .ok (.istore_n 2, 1) := by decide +kernel
theorem dX3_bestCopy_57 : decode cX3_bestCopy 57 = .ok (.iload 5, 2) := by decide +kernel
theorem dX3_bestCopy_59 : decode cX3_bestCopy 59 = .ok (.istore_n 3, 1) := by decide +kernel
theorem dX3_bestCopy_60 : decode cX3_bestCopy 60 = .ok (.iinc 4 1, 3) := by decide +kernel
theorem dX3_bestCopy_63 : decode cX3_bestCopy 63 = .ok (.goto (-55), 3) := by decide +kernel
theorem dX3_bestCopy_66 : decode cX3_bestCopy 66 = .ok (.iload_n 2, 1) := by decide +kernel
theorem dX3_bestCopy_67 : decode cX3_bestCopy 67 = .ok (.ireturn, 1) := by decide +kernel
set_option maxRecDepth 20000 in
theorem ggX3_countLenders_X3_place : GoodIn wsX3_countLenders wsX3_place := goodIn_r _ [10, 11, 12, 13, 14, 15, 16, 17, 18, 41, 42, 43, 44, 45, 46, 47, 48, 49, 50, 51, 52] (by decide +kernel) (by decide +kernel)
set_option maxRecDepth 20000 in
theorem gX3_countLenders_X3_place : GoodIn wsX3_countLenders (wsV RX3 72 RX3 yX3_place wsX3_place) := goodIn_app (goodIn_of _ (by decide +kernel)) ggX3_countLenders_X3_place
set_option maxRecDepth 20000 in
theorem ggX3_countLenders_X3_lack : GoodIn wsX3_countLenders wsX3_lack := goodIn_r _ [22, 23, 24, 25, 13, 14, 15, 16, 17, 18, 41, 42, 43, 44, 45, 46, 47, 48, 49, 50, 51, 52] (by decide +kernel) (by decide +kernel)
set_option maxRecDepth 20000 in
theorem gX3_countLenders_X3_lack : GoodIn wsX3_countLenders (wsV RX3 75 RX3 yX3_lack wsX3_lack) := goodIn_app (goodIn_of _ (by decide +kernel)) ggX3_countLenders_X3_lack
set_option maxRecDepth 20000 in
theorem ggX3_countLenders_X3_mayLend : GoodIn wsX3_countLenders wsX3_mayLend := goodIn_r _ [29, 24, 11, 12, 13, 14, 15, 16, 17, 18, 41, 42, 43, 44, 45, 46, 47, 48, 49, 50, 51, 52] (by decide +kernel) (by decide +kernel)
set_option maxRecDepth 20000 in
theorem gX3_countLenders_X3_mayLend : GoodIn wsX3_countLenders (wsV RX3 78 RX3 yX3_mayLend wsX3_mayLend) := goodIn_app (goodIn_of _ (by decide +kernel)) ggX3_countLenders_X3_mayLend
set_option maxRecDepth 20000 in
theorem ggX3_countLenders_X3_count : GoodIn wsX3_countLenders wsX3_count := goodIn_r _ [33, 25, 13, 14, 15, 16, 17, 18, 41, 42, 43, 44, 45, 46, 47, 48, 49, 50, 51, 52] (by decide +kernel) (by decide +kernel)
set_option maxRecDepth 20000 in
theorem gX3_countLenders_X3_count : GoodIn wsX3_countLenders (wsV RX3 58 RX3 yX3_count wsX3_count) := goodIn_app (goodIn_of _ (by decide +kernel)) ggX3_countLenders_X3_count
set_option maxRecDepth 20000 in
theorem ggX3_countLenders_J6_bitCount_0f7a4 : GoodIn wsX3_countLenders wsJ6_bitCount_0f7a4 := goodIn_r _ [37, 38, 39, 40] (by decide +kernel) (by decide +kernel)
set_option maxRecDepth 20000 in
theorem gX3_countLenders_J6_bitCount_0f7a4 : GoodIn wsX3_countLenders (va_wsS RX3 86 yJ6_bitCount_0f7a4 wsJ6_bitCount_0f7a4) := goodIn_app (goodIn_of _ (by decide +kernel)) ggX3_countLenders_J6_bitCount_0f7a4
theorem dX3_countLenders_0 : decode cX3_countLenders 0 = .ok (.aload_n 0, 1) := by decide +kernel
theorem dX3_countLenders_1 : decode cX3_countLenders 1 = .ok (.iload_n 1, 1) := by decide +kernel
theorem dX3_countLenders_2 : decode cX3_countLenders 2 = .ok (.invokevirtual 72, 3) := by decide +kernel
theorem dX3_countLenders_5 : decode cX3_countLenders 5 = .ok (.ifCond .eq 5, 3) := by decide +kernel
theorem dX3_countLenders_8 : decode cX3_countLenders 8 = .ok (.iconst (-1), 1) := by decide +kernel
theorem dX3_countLenders_9 : decode cX3_countLenders 9 = .ok (.ireturn, 1) := by decide +kernel
theorem dX3_countLenders_10 : decode cX3_countLenders 10 = .ok (.iconst 0, 1) := by decide +kernel
theorem dX3_countLenders_11 : decode cX3_countLenders 11 = .ok (.istore_n 2, 1) := by decide +kernel
theorem dX3_countLenders_12 : decode cX3_countLenders 12 = .ok (.iconst 0, 1) := by decide +kernel
theorem dX3_countLenders_13 : decode cX3_countLenders 13 = .ok (.istore_n 3, 1) := by decide +kernel
theorem dX3_countLenders_14 : decode cX3_countLenders 14 = .ok (.iload_n 3, 1) := by decide +kernel
theorem dX3_countLenders_15 : decode cX3_countLenders 15 = .ok (.iconst 4, 1) := by decide +kernel
theorem dX3_countLenders_16 : decode cX3_countLenders 16 = .ok (.if_icmp .ge 91, 3) := by decide +kernel
theorem dX3_countLenders_19 : decode cX3_countLenders 19 = .ok (.aload_n 0, 1) := by decide +kernel
theorem dX3_countLenders_20 : decode cX3_countLenders 20 = .ok (.iload_n 1, 1) := by decide +kernel
theorem dX3_countLenders_21 : decode cX3_countLenders 21 = .ok (.iload_n 3, 1) := by decide +kernel
theorem dX3_countLenders_22 : decode cX3_countLenders 22 = .ok (.invokevirtual 75, 3) := by decide +kernel
theorem dX3_countLenders_25 : decode cX3_countLenders 25 = .ok (.istore 4, 2) := by decide +kernel
theorem dX3_countLenders_27 : decode cX3_countLenders 27 = .ok (.iconst 0, 1) := by decide +kernel
theorem dX3_countLenders_28 : decode cX3_countLenders 28 = .ok (.istore 5, 2) := by decide +kernel
theorem dX3_countLenders_30 : decode cX3_countLenders 30 = .ok (.iload 5, 2) := by decide +kernel
theorem dX3_countLenders_32 : decode cX3_countLenders 32 = .ok (.aload_n 0, 1) := by decide +kernel
theorem dX3_countLenders_33 : decode cX3_countLenders 33 = .ok (.getfield 51, 3) := by decide +kernel
theorem dX3_countLenders_36 : decode cX3_countLenders 36 = .ok (.if_icmp .ge 58, 3) := by decide +kernel
theorem dX3_countLenders_39 : decode cX3_countLenders 39 = .ok (.iload 4, 2) := by decide +kernel
theorem dX3_countLenders_41 : decode cX3_countLenders 41 = .ok (.ifCond .le 53, 3) := by decide +kernel
theorem dX3_countLenders_44 : decode cX3_countLenders 44 = .ok (.aload_n 0, 1) := by decide +kernel
theorem dX3_countLenders_45 : decode cX3_countLenders 45 = .ok (.iload 5, 2) := by decide +kernel
theorem dX3_countLenders_47 : decode cX3_countLenders 47 = .ok (.iload_n 1, 1) := by decide +kernel
theorem dX3_countLenders_48 : decode cX3_countLenders 48 = .ok (.invokevirtual 78, 3) := by decide +kernel
theorem dX3_countLenders_51 : decode cX3_countLenders 51 = .ok (.ifCond .eq 37, 3) := by decide +kernel
theorem dX3_countLenders_54 : decode cX3_countLenders 54 = .ok (.aload_n 0, 1) := by decide +kernel
theorem dX3_countLenders_55 : decode cX3_countLenders 55 = .ok (.iload 5, 2) := by decide +kernel
theorem dX3_countLenders_57 : decode cX3_countLenders 57 = .ok (.iload_n 3, 1) := by decide +kernel
theorem dX3_countLenders_58 : decode cX3_countLenders 58 = .ok (.invokevirtual 58, 3) := by decide +kernel
theorem dX3_countLenders_61 : decode cX3_countLenders 61 = .ok (.ifCond .le 27, 3) := by decide +kernel
theorem dX3_countLenders_64 : decode cX3_countLenders 64 = .ok (.iload_n 2, 1) := by decide +kernel
theorem dX3_countLenders_65 : decode cX3_countLenders 65 = .ok (.iconst 1, 1) := by decide +kernel
theorem dX3_countLenders_66 : decode cX3_countLenders 66 = .ok (.iload 5, 2) := by decide +kernel
theorem dX3_countLenders_68 : decode cX3_countLenders 68 = .ok (.ishl, 1) := by decide +kernel
theorem dX3_countLenders_69 : decode cX3_countLenders 69 = .ok (.ior, 1) := by decide +kernel
theorem dX3_countLenders_70 : decode cX3_countLenders 70 = .ok (.istore_n 2, 1) := by decide +kernel
theorem dX3_countLenders_71 : decode cX3_countLenders 71 = .ok (.iload 4, 2) := by decide +kernel
theorem dX3_countLenders_73 : decode cX3_countLenders 73 = .ok (.iload 4, 2) := by decide +kernel
theorem dX3_countLenders_75 : decode cX3_countLenders 75 = .ok (.aload_n 0, 1) := by decide +kernel
theorem dX3_countLenders_76 : decode cX3_countLenders 76 = .ok (.iload 5, 2) := by decide +kernel
theorem dX3_countLenders_78 : decode cX3_countLenders 78 = .ok (.iload_n 3, 1) := by decide +kernel
theorem dX3_countLenders_79 : decode cX3_countLenders 79 = .ok (.invokevirtual 58, 3) := by decide +kernel
theorem dX3_countLenders_82 : decode cX3_countLenders 82 = .ok (.invokestatic 81, 3) := by decide +kernel
theorem dX3_countLenders_85 : decode cX3_countLenders 85 = .ok (.isub, 1) := by decide +kernel
theorem dX3_countLenders_86 : decode cX3_countLenders 86 = .ok (.istore 4, 2) := by decide +kernel
theorem dX3_countLenders_88 : decode cX3_countLenders 88 = .ok (.iinc 5 1, 3) := by decide +kernel
theorem dX3_countLenders_91 : decode cX3_countLenders 91 = .ok (.goto (-61), 3) := by decide +kernel
theorem dX3_countLenders_94 : decode cX3_countLenders 94 = .ok (.iload 4, 2) := by decide +kernel
theorem dX3_countLenders_96 : decode cX3_countLenders 96 = .ok (.ifCond .le 5, 3) := by decide +kernel
theorem dX3_countLenders_99 : decode cX3_countLenders 99 = .ok (.iconst (-1), 1) := by decide +kernel
theorem dX3_countLenders_100 : decode cX3_countLenders 100 = .ok (.ireturn, 1) := by decide +kernel
theorem dX3_countLenders_101 : decode cX3_countLenders 101 = .ok (.iinc 3 1, 3) := by decide +kernel
theorem dX3_countLenders_104 : decode cX3_countLenders 104 = .ok (.goto (-90), 3) := by decide +kernel
theorem dX3_countLenders_107 : decode cX3_countLenders 107 = .ok (.iload_n 2, 1) := by decide +kernel
theorem dX3_countLenders_108 : decode cX3_countLenders 108 = .ok (.invokestatic 86, 3) := by decide +kernel
theorem dX3_countLenders_111 : decode cX3_countLenders 111 = .ok (.ireturn, 1) := by decide +kernel
set_option maxRecDepth 20000 in
theorem ggX3_mayLend_X2_at : GoodIn wsX3_mayLend wsX2_at := goodIn_r _ [8, 9, 21] (by decide +kernel) (by decide +kernel)
set_option maxRecDepth 20000 in
theorem gX3_mayLend_X2_at : GoodIn wsX3_mayLend (wsV RX3 54 RX2 yX2_at wsX2_at) := goodIn_app (goodIn_of _ (by decide +kernel)) ggX3_mayLend_X2_at
theorem dX3_mayLend_0 : decode cX3_mayLend 0 = .ok (.iload_n 1, 1) := by decide +kernel
theorem dX3_mayLend_1 : decode cX3_mayLend 1 = .ok (.iload_n 2, 1) := by decide +kernel
theorem dX3_mayLend_2 : decode cX3_mayLend 2 = .ok (.if_icmp .eq 62, 3) := by decide +kernel
theorem dX3_mayLend_5 : decode cX3_mayLend 5 = .ok (.aload_n 0, 1) := by decide +kernel
theorem dX3_mayLend_6 : decode cX3_mayLend 6 = .ok (.getfield 29, 3) := by decide +kernel
theorem dX3_mayLend_9 : decode cX3_mayLend 9 = .ok (.iload_n 1, 1) := by decide +kernel
theorem dX3_mayLend_10 : decode cX3_mayLend 10 = .ok (.invokevirtual 54, 3) := by decide +kernel
theorem dX3_mayLend_13 : decode cX3_mayLend 13 = .ok (.aload_n 0, 1) := by decide +kernel
theorem dX3_mayLend_14 : decode cX3_mayLend 14 = .ok (.getfield 29, 3) := by decide +kernel
theorem dX3_mayLend_17 : decode cX3_mayLend 17 = .ok (.iload_n 2, 1) := by decide +kernel
theorem dX3_mayLend_18 : decode cX3_mayLend 18 = .ok (.invokevirtual 54, 3) := by decide +kernel
theorem dX3_mayLend_21 : decode cX3_mayLend 21 = .ok (.if_icmp .ne 43, 3) := by decide +kernel
theorem dX3_mayLend_24 : decode cX3_mayLend 24 = .ok (.aload_n 0, 1) := by decide +kernel
theorem dX3_mayLend_25 : decode cX3_mayLend 25 = .ok (.getfield 32, 3) := by decide +kernel
theorem dX3_mayLend_28 : decode cX3_mayLend 28 = .ok (.iload_n 1, 1) := by decide +kernel
theorem dX3_mayLend_29 : decode cX3_mayLend 29 = .ok (.invokevirtual 54, 3) := by decide +kernel
theorem dX3_mayLend_32 : decode cX3_mayLend 32 = .ok (.iconst (-1), 1) := by decide +kernel
theorem dX3_mayLend_33 : decode cX3_mayLend 33 = .ok (.if_icmp .ne 31, 3) := by decide +kernel
theorem dX3_mayLend_36 : decode cX3_mayLend 36 = .ok (.aload_n 0, 1) := by decide +kernel
theorem dX3_mayLend_37 : decode cX3_mayLend 37 = .ok (.getfield 35, 3) := by decide +kernel
theorem dX3_mayLend_40 : decode cX3_mayLend 40 = .ok (.iload_n 1, 1) := by decide +kernel
theorem dX3_mayLend_41 : decode cX3_mayLend 41 = .ok (.invokevirtual 54, 3) := by decide +kernel
theorem dX3_mayLend_44 : decode cX3_mayLend 44 = .ok (.iconst (-1), 1) := by decide +kernel
theorem dX3_mayLend_45 : decode cX3_mayLend 45 = .ok (.if_icmp .eq 15, 3) := by decide +kernel
theorem dX3_mayLend_48 : decode cX3_mayLend 48 = .ok (.aload_n 0, 1) := by decide +kernel
theorem dX3_mayLend_49 : decode cX3_mayLend 49 = .ok (.getfield 35, 3) := by decide +kernel
theorem dX3_mayLend_52 : decode cX3_mayLend 52 = .ok (.iload_n 1, 1) := by decide +kernel
theorem dX3_mayLend_53 : decode cX3_mayLend 53 = .ok (.invokevirtual 54, 3) := by decide +kernel
theorem dX3_mayLend_56 : decode cX3_mayLend 56 = .ok (.iload_n 2, 1) := by decide +kernel
theorem dX3_mayLend_57 : decode cX3_mayLend 57 = .ok (.if_icmp .ne 7, 3) := by decide +kernel
theorem dX3_mayLend_60 : decode cX3_mayLend 60 = .ok (.iconst 1, 1) := by decide +kernel
theorem dX3_mayLend_61 : decode cX3_mayLend 61 = .ok (.goto 4, 3) := by decide +kernel
theorem dX3_mayLend_64 : decode cX3_mayLend 64 = .ok (.iconst 0, 1) := by decide +kernel
theorem dX3_mayLend_65 : decode cX3_mayLend 65 = .ok (.ireturn, 1) := by decide +kernel
set_option maxRecDepth 20000 in
theorem ggX3_handOut_X3_lack : GoodIn wsX3_handOut wsX3_lack := goodIn_r _ [11, 12, 13, 14, 15, 16, 17, 18, 19, 20, 43, 44, 45, 46, 47, 48, 49, 50, 51, 52, 53, 54] (by decide +kernel) (by decide +kernel)
set_option maxRecDepth 20000 in
theorem gX3_handOut_X3_lack : GoodIn wsX3_handOut (wsV RX3 75 RX3 yX3_lack wsX3_lack) := goodIn_app (goodIn_of _ (by decide +kernel)) ggX3_handOut_X3_lack
set_option maxRecDepth 20000 in
theorem ggX3_handOut_X3_count : GoodIn wsX3_handOut wsX3_count := goodIn_r _ [24, 14, 15, 16, 17, 18, 19, 20, 43, 44, 45, 46, 47, 48, 49, 50, 51, 52, 53, 54] (by decide +kernel) (by decide +kernel)
set_option maxRecDepth 20000 in
theorem gX3_handOut_X3_count : GoodIn wsX3_handOut (wsV RX3 58 RX3 yX3_count wsX3_count) := goodIn_app (goodIn_of _ (by decide +kernel)) ggX3_handOut_X3_count
set_option maxRecDepth 20000 in
theorem ggX3_handOut_X3_mayLend : GoodIn wsX3_handOut wsX3_mayLend := goodIn_r _ [28, 13, 6, 29, 15, 16, 17, 18, 19, 20, 43, 44, 45, 46, 47, 48, 49, 50, 51, 52, 53, 54] (by decide +kernel) (by decide +kernel)
set_option maxRecDepth 20000 in
theorem gX3_handOut_X3_mayLend : GoodIn wsX3_handOut (wsV RX3 78 RX3 yX3_mayLend wsX3_mayLend) := goodIn_app (goodIn_of _ (by decide +kernel)) ggX3_handOut_X3_mayLend
set_option maxRecDepth 20000 in
theorem ggX3_handOut_X3_lend : GoodIn wsX3_handOut wsX3_lend := goodIn_r _ [33, 29, 34, 35, 36, 37, 18, 38, 20, 39, 40, 41, 10, 42, 14, 21, 22, 23, 24, 15, 16, 17, 19, 43, 44, 45, 46, 47, 48, 49, 50, 51, 52, 53, 54] (by decide +kernel) (by decide +kernel)
set_option maxRecDepth 20000 in
theorem gX3_handOut_X3_lend : GoodIn wsX3_handOut (wsV RX3 91 RX3 yX3_lend wsX3_lend) := goodIn_app (goodIn_of _ (by decide +kernel)) ggX3_handOut_X3_lend
set_option maxRecDepth 20000 in
theorem ggX3_handOut_X2_put : GoodIn wsX3_handOut wsX2_put := goodIn_r _ [38, 20, 54] (by decide +kernel) (by decide +kernel)
set_option maxRecDepth 20000 in
theorem gX3_handOut_X2_put : GoodIn wsX3_handOut (wsV RX3 48 RX2 yX2_put wsX2_put) := goodIn_app (goodIn_of _ (by decide +kernel)) ggX3_handOut_X2_put
theorem dX3_handOut_0 : decode cX3_handOut 0 = .ok (.iconst 0, 1) := by decide +kernel
theorem dX3_handOut_1 : decode cX3_handOut 1 = .ok (.istore_n 3, 1) := by decide +kernel
theorem dX3_handOut_2 : decode cX3_handOut 2 = .ok (.iload_n 3, 1) := by decide +kernel
theorem dX3_handOut_3 : decode cX3_handOut 3 = .ok (.iconst 4, 1) := by decide +kernel
theorem dX3_handOut_4 : decode cX3_handOut 4 = .ok (.if_icmp .ge 70, 3) := by decide +kernel
theorem dX3_handOut_7 : decode cX3_handOut 7 = .ok (.iconst 0, 1) := by decide +kernel
theorem dX3_handOut_8 : decode cX3_handOut 8 = .ok (.istore 4, 2) := by decide +kernel
theorem dX3_handOut_10 : decode cX3_handOut 10 = .ok (.iload 4, 2) := by decide +kernel
theorem dX3_handOut_12 : decode cX3_handOut 12 = .ok (.aload_n 0, 1) := by decide +kernel
theorem dX3_handOut_13 : decode cX3_handOut 13 = .ok (.getfield 51, 3) := by decide +kernel
theorem dX3_handOut_16 : decode cX3_handOut 16 = .ok (.if_icmp .ge 52, 3) := by decide +kernel
theorem dX3_handOut_19 : decode cX3_handOut 19 = .ok (.aload_n 0, 1) := by decide +kernel
theorem dX3_handOut_20 : decode cX3_handOut 20 = .ok (.iload_n 1, 1) := by decide +kernel
theorem dX3_handOut_21 : decode cX3_handOut 21 = .ok (.iload_n 3, 1) := by decide +kernel
theorem dX3_handOut_22 : decode cX3_handOut 22 = .ok (.invokevirtual 75, 3) := by decide +kernel
theorem dX3_handOut_25 : decode cX3_handOut 25 = .ok (.aload_n 0, 1) := by decide +kernel
theorem dX3_handOut_26 : decode cX3_handOut 26 = .ok (.iload 4, 2) := by decide +kernel
theorem dX3_handOut_28 : decode cX3_handOut 28 = .ok (.iload_n 3, 1) := by decide +kernel
theorem dX3_handOut_29 : decode cX3_handOut 29 = .ok (.invokevirtual 58, 3) := by decide +kernel
theorem dX3_handOut_32 : decode cX3_handOut 32 = .ok (.invokestatic 81, 3) := by decide +kernel
theorem dX3_handOut_35 : decode cX3_handOut 35 = .ok (.istore 5, 2) := by decide +kernel
theorem dX3_handOut_37 : decode cX3_handOut 37 = .ok (.aload_n 0, 1) := by decide +kernel
theorem dX3_handOut_38 : decode cX3_handOut 38 = .ok (.iload 4, 2) := by decide +kernel
theorem dX3_handOut_40 : decode cX3_handOut 40 = .ok (.iload_n 1, 1) := by decide +kernel
theorem dX3_handOut_41 : decode cX3_handOut 41 = .ok (.invokevirtual 78, 3) := by decide +kernel
theorem dX3_handOut_44 : decode cX3_handOut 44 = .ok (.ifCond .eq 18, 3) := by decide +kernel
theorem dX3_handOut_47 : decode cX3_handOut 47 = .ok (.iload 5, 2) := by decide +kernel
theorem dX3_handOut_49 : decode cX3_handOut 49 = .ok (.ifCond .le 13, 3) := by decide +kernel
theorem dX3_handOut_52 : decode cX3_handOut 52 = .ok (.aload_n 0, 1) := by decide +kernel
theorem dX3_handOut_53 : decode cX3_handOut 53 = .ok (.iload 4, 2) := by decide +kernel
theorem dX3_handOut_55 : decode cX3_handOut 55 = .ok (.iload_n 1, 1) := by decide +kernel
theorem dX3_handOut_56 : decode cX3_handOut 56 = .ok (.iload_n 3, 1) := by decide +kernel
theorem dX3_handOut_57 : decode cX3_handOut 57 = .ok (.iload 5, 2) := by decide +kernel
theorem dX3_handOut_59 : decode cX3_handOut 59 = .ok (.invokevirtual 91, 3) := by decide +kernel
theorem dX3_handOut_62 : decode cX3_handOut 62 = .ok (.iinc 4 1, 3) := by decide +kernel
theorem dX3_handOut_65 : decode cX3_handOut 65 = .ok (.goto (-55), 3) := by decide +kernel
theorem dX3_handOut_68 : decode cX3_handOut 68 = .ok (.iinc 3 1, 3) := by decide +kernel
theorem dX3_handOut_71 : decode cX3_handOut 71 = .ok (.goto (-69), 3) := by decide +kernel
theorem dX3_handOut_74 : decode cX3_handOut 74 = .ok (.aload_n 0, 1) := by decide +kernel
theorem dX3_handOut_75 : decode cX3_handOut 75 = .ok (.getfield 32, 3) := by decide +kernel
theorem dX3_handOut_78 : decode cX3_handOut 78 = .ok (.iload_n 1, 1) := by decide +kernel
theorem dX3_handOut_79 : decode cX3_handOut 79 = .ok (.iload_n 2, 1) := by decide +kernel
theorem dX3_handOut_80 : decode cX3_handOut 80 = .ok (.invokevirtual 48, 3) := by decide +kernel
theorem dX3_handOut_83 : decode cX3_handOut 83 = .ok (.return_, 1) := by decide +kernel
set_option maxRecDepth 20000 in
theorem ggX3_lend_X2_put : GoodIn wsX3_lend wsX2_put := goodIn_r _ [7, 8, 34] (by decide +kernel) (by decide +kernel)
set_option maxRecDepth 20000 in
theorem gX3_lend_X2_put : GoodIn wsX3_lend (wsV RX3 48 RX2 yX2_put wsX2_put) := goodIn_app (goodIn_of _ (by decide +kernel)) ggX3_lend_X2_put
set_option maxRecDepth 20000 in
theorem ggX3_lend_X3_change : GoodIn wsX3_lend wsX3_change := goodIn_r _ [13, 14, 15, 16, 17, 12, 18, 19, 20, 21, 6, 22, 8, 3, 4, 5, 7, 23, 24, 25, 26, 27, 28, 29, 30, 31, 32, 33, 34] (by decide +kernel) (by decide +kernel)
set_option maxRecDepth 20000 in
theorem gX3_lend_X3_change : GoodIn wsX3_lend (wsV RX3 95 RX3 yX3_change wsX3_change) := goodIn_app (goodIn_of _ (by decide +kernel)) ggX3_lend_X3_change
theorem dX3_lend_0 : decode cX3_lend 0 = .ok (.aload_n 0, 1) := by decide +kernel
theorem dX3_lend_1 : decode cX3_lend 1 = .ok (.getfield 35, 3) := by decide +kernel
theorem dX3_lend_4 : decode cX3_lend 4 = .ok (.iload_n 1, 1) := by decide +kernel
theorem dX3_lend_5 : decode cX3_lend 5 = .ok (.iload_n 2, 1) := by decide +kernel
theorem dX3_lend_6 : decode cX3_lend 6 = .ok (.invokevirtual 48, 3) := by decide +kernel
theorem dX3_lend_9 : decode cX3_lend 9 = .ok (.aload_n 0, 1) := by decide +kernel
theorem dX3_lend_10 : decode cX3_lend 10 = .ok (.getfield 38, 3) := by decide +kernel
theorem dX3_lend_13 : decode cX3_lend 13 = .ok (.iload_n 1, 1) := by decide +kernel
theorem dX3_lend_14 : decode cX3_lend 14 = .ok (.iconst 4, 1) := by decide +kernel
theorem dX3_lend_15 : decode cX3_lend 15 = .ok (.imul, 1) := by decide +kernel
theorem dX3_lend_16 : decode cX3_lend 16 = .ok (.iload_n 3, 1) := by decide +kernel
theorem dX3_lend_17 : decode cX3_lend 17 = .ok (.iadd, 1) := by decide +kernel
theorem dX3_lend_18 : decode cX3_lend 18 = .ok (.iload 4, 2) := by decide +kernel
theorem dX3_lend_20 : decode cX3_lend 20 = .ok (.invokevirtual 48, 3) := by decide +kernel
theorem dX3_lend_23 : decode cX3_lend 23 = .ok (.aload_n 0, 1) := by decide +kernel
theorem dX3_lend_24 : decode cX3_lend 24 = .ok (.iload_n 1, 1) := by decide +kernel
theorem dX3_lend_25 : decode cX3_lend 25 = .ok (.iload_n 3, 1) := by decide +kernel
theorem dX3_lend_26 : decode cX3_lend 26 = .ok (.iload 4, 2) := by decide +kernel
theorem dX3_lend_28 : decode cX3_lend 28 = .ok (.ineg, 1) := by decide +kernel
theorem dX3_lend_29 : decode cX3_lend 29 = .ok (.invokevirtual 95, 3) := by decide +kernel
theorem dX3_lend_32 : decode cX3_lend 32 = .ok (.aload_n 0, 1) := by decide +kernel
theorem dX3_lend_33 : decode cX3_lend 33 = .ok (.iload_n 2, 1) := by decide +kernel
theorem dX3_lend_34 : decode cX3_lend 34 = .ok (.iload_n 3, 1) := by decide +kernel
theorem dX3_lend_35 : decode cX3_lend 35 = .ok (.iload 4, 2) := by decide +kernel
theorem dX3_lend_37 : decode cX3_lend 37 = .ok (.invokevirtual 95, 3) := by decide +kernel
theorem dX3_lend_40 : decode cX3_lend 40 = .ok (.return_, 1) := by decide +kernel
set_option maxRecDepth 20000 in
theorem ggX3_takeBack_X3_change : GoodIn wsX3_takeBack wsX3_change := goodIn_r _ [8, 9, 10, 11, 12, 7, 13, 14, 15, 16, 17, 18, 19, 20, 21, 22, 23, 33, 34, 35, 36, 37, 38, 39, 40, 41, 42, 43, 44] (by decide +kernel) (by decide +kernel)
set_option maxRecDepth 20000 in
theorem gX3_takeBack_X3_change : GoodIn wsX3_takeBack (wsV RX3 95 RX3 yX3_change wsX3_change) := goodIn_app (goodIn_of _ (by decide +kernel)) ggX3_takeBack_X3_change
set_option maxRecDepth 20000 in
theorem ggX3_takeBack_X3_closeLoans : GoodIn wsX3_takeBack wsX3_closeLoans := goodIn_r _ [27, 1, 28, 2, 29, 30, 31, 32, 14, 15, 16, 17, 18, 19, 10, 11, 12, 7, 13, 9, 4, 5, 6, 8, 20, 21, 22, 23, 33, 34, 35, 36, 37, 38, 39, 40, 41, 42, 43, 44] (by decide +kernel) (by decide +kernel)
set_option maxRecDepth 20000 in
theorem gX3_takeBack_X3_closeLoans : GoodIn wsX3_takeBack (wsV RX3 99 RX3 yX3_closeLoans wsX3_closeLoans) := goodIn_app (goodIn_of _ (by decide +kernel)) ggX3_takeBack_X3_closeLoans
set_option maxRecDepth 20000 in
theorem ggX3_takeBack_X2_at : GoodIn wsX3_takeBack wsX2_at := goodIn_r _ [18, 19, 44] (by decide +kernel) (by decide +kernel)
set_option maxRecDepth 20000 in
theorem gX3_takeBack_X2_at : GoodIn wsX3_takeBack (wsV RX3 54 RX2 yX2_at wsX2_at) := goodIn_app (goodIn_of _ (by decide +kernel)) ggX3_takeBack_X2_at
set_option maxRecDepth 20000 in
theorem ggX3_takeBack_X2_put : GoodIn wsX3_takeBack wsX2_put := goodIn_r _ [23, 19, 44] (by decide +kernel) (by decide +kernel)
set_option maxRecDepth 20000 in
theorem gX3_takeBack_X2_put : GoodIn wsX3_takeBack (wsV RX3 48 RX2 yX2_put wsX2_put) := goodIn_app (goodIn_of _ (by decide +kernel)) ggX3_takeBack_X2_put
theorem dX3_takeBack_0 : decode cX3_takeBack 0 = .ok (.aload_n 0, 1) := by decide +kernel
theorem dX3_takeBack_1 : decode cX3_takeBack 1 = .ok (.iload_n 1, 1) := by decide +kernel
theorem dX3_takeBack_2 : decode cX3_takeBack 2 = .ok (.iload_n 2, 1) := by decide +kernel
theorem dX3_takeBack_3 : decode cX3_takeBack 3 = .ok (.iload_n 3, 1) := by decide +kernel
theorem dX3_takeBack_4 : decode cX3_takeBack 4 = .ok (.ineg, 1) := by decide +kernel
theorem dX3_takeBack_5 : decode cX3_takeBack 5 = .ok (.invokevirtual 95, 3) := by decide +kernel
theorem dX3_takeBack_8 : decode cX3_takeBack 8 = .ok (.aload_n 0, 1) := by decide +kernel
theorem dX3_takeBack_9 : decode cX3_takeBack 9 = .ok (.iload_n 1, 1) := by decide +kernel
theorem dX3_takeBack_10 : decode cX3_takeBack 10 = .ok (.invokevirtual 99, 3) := by decide +kernel
theorem dX3_takeBack_13 : decode cX3_takeBack 13 = .ok (.istore 4, 2) := by decide +kernel
theorem dX3_takeBack_15 : decode cX3_takeBack 15 = .ok (.iconst 0, 1) := by decide +kernel
theorem dX3_takeBack_16 : decode cX3_takeBack 16 = .ok (.istore 5, 2) := by decide +kernel
theorem dX3_takeBack_18 : decode cX3_takeBack 18 = .ok (.iload 5, 2) := by decide +kernel
theorem dX3_takeBack_20 : decode cX3_takeBack 20 = .ok (.aload_n 0, 1) := by decide +kernel
theorem dX3_takeBack_21 : decode cX3_takeBack 21 = .ok (.getfield 51, 3) := by decide +kernel
theorem dX3_takeBack_24 : decode cX3_takeBack 24 = .ok (.if_icmp .ge 32, 3) := by decide +kernel
theorem dX3_takeBack_27 : decode cX3_takeBack 27 = .ok (.aload_n 0, 1) := by decide +kernel
theorem dX3_takeBack_28 : decode cX3_takeBack 28 = .ok (.getfield 35, 3) := by decide +kernel
theorem dX3_takeBack_31 : decode cX3_takeBack 31 = .ok (.iload 5, 2) := by decide +kernel
theorem dX3_takeBack_33 : decode cX3_takeBack 33 = .ok (.invokevirtual 54, 3) := by decide +kernel
theorem dX3_takeBack_36 : decode cX3_takeBack 36 = .ok (.iload_n 1, 1) := by decide +kernel
theorem dX3_takeBack_37 : decode cX3_takeBack 37 = .ok (.if_icmp .ne 13, 3) := by decide +kernel
theorem dX3_takeBack_40 : decode cX3_takeBack 40 = .ok (.aload_n 0, 1) := by decide +kernel
theorem dX3_takeBack_41 : decode cX3_takeBack 41 = .ok (.getfield 35, 3) := by decide +kernel
theorem dX3_takeBack_44 : decode cX3_takeBack 44 = .ok (.iload 5, 2) := by decide +kernel
theorem dX3_takeBack_46 : decode cX3_takeBack 46 = .ok (.iconst (-1), 1) := by decide +kernel
theorem dX3_takeBack_47 : decode cX3_takeBack 47 = .ok (.invokevirtual 48, 3) := by decide +kernel
theorem dX3_takeBack_50 : decode cX3_takeBack 50 = .ok (.iinc 5 1, 3) := by decide +kernel
theorem dX3_takeBack_53 : decode cX3_takeBack 53 = .ok (.goto (-35), 3) := by decide +kernel
theorem dX3_takeBack_56 : decode cX3_takeBack 56 = .ok (.aload_n 0, 1) := by decide +kernel
theorem dX3_takeBack_57 : decode cX3_takeBack 57 = .ok (.getfield 32, 3) := by decide +kernel
theorem dX3_takeBack_60 : decode cX3_takeBack 60 = .ok (.iload_n 1, 1) := by decide +kernel
theorem dX3_takeBack_61 : decode cX3_takeBack 61 = .ok (.iconst (-1), 1) := by decide +kernel
theorem dX3_takeBack_62 : decode cX3_takeBack 62 = .ok (.invokevirtual 48, 3) := by decide +kernel
theorem dX3_takeBack_65 : decode cX3_takeBack 65 = .ok (.iload 4, 2) := by decide +kernel
theorem dX3_takeBack_67 : decode cX3_takeBack 67 = .ok (.ireturn, 1) := by decide +kernel
set_option maxRecDepth 20000 in
theorem ggX3_closeLoans_X2_at : GoodIn wsX3_closeLoans wsX2_at := goodIn_r _ [12, 13, 39] (by decide +kernel) (by decide +kernel)
set_option maxRecDepth 20000 in
theorem gX3_closeLoans_X2_at : GoodIn wsX3_closeLoans (wsV RX3 54 RX2 yX2_at wsX2_at) := goodIn_app (goodIn_of _ (by decide +kernel)) ggX3_closeLoans_X2_at
set_option maxRecDepth 20000 in
theorem ggX3_closeLoans_X3_count : GoodIn wsX3_closeLoans wsX3_count := goodIn_r _ [18, 19, 8, 9, 10, 11, 12, 13, 28, 29, 30, 31, 32, 33, 34, 35, 36, 37, 38, 39] (by decide +kernel) (by decide +kernel)
set_option maxRecDepth 20000 in
theorem gX3_closeLoans_X3_count : GoodIn wsX3_closeLoans (wsV RX3 58 RX3 yX3_count wsX3_count) := goodIn_app (goodIn_of _ (by decide +kernel)) ggX3_closeLoans_X3_count
set_option maxRecDepth 20000 in
theorem ggX3_closeLoans_X3_change : GoodIn wsX3_closeLoans wsX3_change := goodIn_r _ [23, 19, 14, 15, 16, 17, 18, 8, 9, 10, 11, 12, 13, 24, 25, 26, 27, 28, 29, 30, 31, 32, 33, 34, 35, 36, 37, 38, 39] (by decide +kernel) (by decide +kernel)
set_option maxRecDepth 20000 in
theorem gX3_closeLoans_X3_change : GoodIn wsX3_closeLoans (wsV RX3 95 RX3 yX3_change wsX3_change) := goodIn_app (goodIn_of _ (by decide +kernel)) ggX3_closeLoans_X3_change
set_option maxRecDepth 20000 in
theorem ggX3_closeLoans_X2_put : GoodIn wsX3_closeLoans wsX2_put := goodIn_r _ [27, 13, 39] (by decide +kernel) (by decide +kernel)
set_option maxRecDepth 20000 in
theorem gX3_closeLoans_X2_put : GoodIn wsX3_closeLoans (wsV RX3 48 RX2 yX2_put wsX2_put) := goodIn_app (goodIn_of _ (by decide +kernel)) ggX3_closeLoans_X2_put
theorem dX3_closeLoans_0 : decode cX3_closeLoans 0 = .ok (.iconst 0, 1) := by decide +kernel
theorem dX3_closeLoans_1 : decode cX3_closeLoans 1 = .ok (.istore_n 2, 1) := by decide +kernel
theorem dX3_closeLoans_2 : decode cX3_closeLoans 2 = .ok (.iconst 3, 1) := by decide +kernel
theorem dX3_closeLoans_3 : decode cX3_closeLoans 3 = .ok (.istore_n 3, 1) := by decide +kernel
theorem dX3_closeLoans_4 : decode cX3_closeLoans 4 = .ok (.iload_n 3, 1) := by decide +kernel
theorem dX3_closeLoans_5 : decode cX3_closeLoans 5 = .ok (.ifCond .lt 109, 3) := by decide +kernel
theorem dX3_closeLoans_8 : decode cX3_closeLoans 8 = .ok (.aload_n 0, 1) := by decide +kernel
theorem dX3_closeLoans_9 : decode cX3_closeLoans 9 = .ok (.getfield 51, 3) := by decide +kernel
theorem dX3_closeLoans_12 : decode cX3_closeLoans 12 = .ok (.iconst 1, 1) := by decide +kernel
theorem dX3_closeLoans_13 : decode cX3_closeLoans 13 = .ok (.isub, 1) := by decide +kernel
theorem dX3_closeLoans_14 : decode cX3_closeLoans 14 = .ok (.istore 4, 2) := by decide +kernel
theorem dX3_closeLoans_16 : decode cX3_closeLoans 16 = .ok (.iload 4, 2) := by decide +kernel
theorem dX3_closeLoans_18 : decode cX3_closeLoans 18 = .ok (.ifCond .lt 90, 3) := by decide +kernel
theorem dX3_closeLoans_21 : decode cX3_closeLoans 21 = .ok (.aload_n 0, 1) := by decide +kernel
theorem dX3_closeLoans_22 : decode cX3_closeLoans 22 = .ok (.getfield 38, 3) := by decide +kernel
theorem dX3_closeLoans_25 : decode cX3_closeLoans 25 = .ok (.iload 4, 2) := by decide +kernel
theorem dX3_closeLoans_27 : decode cX3_closeLoans 27 = .ok (.iconst 4, 1) := by decide +kernel
theorem dX3_closeLoans_28 : decode cX3_closeLoans 28 = .ok (.imul, 1) := by decide +kernel
theorem dX3_closeLoans_29 : decode cX3_closeLoans 29 = .ok (.iload_n 3, 1) := by decide +kernel
theorem dX3_closeLoans_30 : decode cX3_closeLoans 30 = .ok (.iadd, 1) := by decide +kernel
theorem dX3_closeLoans_31 : decode cX3_closeLoans 31 = .ok (.invokevirtual 54, 3) := by decide +kernel
theorem dX3_closeLoans_34 : decode cX3_closeLoans 34 = .ok (.istore 5, 2) := by decide +kernel
theorem dX3_closeLoans_36 : decode cX3_closeLoans 36 = .ok (.aload_n 0, 1) := by decide +kernel
theorem dX3_closeLoans_37 : decode cX3_closeLoans 37 = .ok (.getfield 35, 3) := by decide +kernel
theorem dX3_closeLoans_40 : decode cX3_closeLoans 40 = .ok (.iload 4, 2) := by decide +kernel
theorem dX3_closeLoans_42 : decode cX3_closeLoans 42 = .ok (.invokevirtual 54, 3) := by decide +kernel
theorem dX3_closeLoans_45 : decode cX3_closeLoans 45 = .ok (.iload_n 1, 1) := by decide +kernel
theorem dX3_closeLoans_46 : decode cX3_closeLoans 46 = .ok (.if_icmp .ne 56, 3) := by decide +kernel
theorem dX3_closeLoans_49 : decode cX3_closeLoans 49 = .ok (.iload 5, 2) := by decide +kernel
theorem dX3_closeLoans_51 : decode cX3_closeLoans 51 = .ok (.ifCond .le 51, 3) := by decide +kernel
theorem dX3_closeLoans_54 : decode cX3_closeLoans 54 = .ok (.iload 5, 2) := by decide +kernel
theorem dX3_closeLoans_56 : decode cX3_closeLoans 56 = .ok (.aload_n 0, 1) := by decide +kernel
theorem dX3_closeLoans_57 : decode cX3_closeLoans 57 = .ok (.iload_n 1, 1) := by decide +kernel
theorem dX3_closeLoans_58 : decode cX3_closeLoans 58 = .ok (.iload_n 3, 1) := by decide +kernel
theorem dX3_closeLoans_59 : decode cX3_closeLoans 59 = .ok (.invokevirtual 58, 3) := by decide +kernel
theorem dX3_closeLoans_62 : decode cX3_closeLoans 62 = .ok (.invokestatic 81, 3) := by decide +kernel
theorem dX3_closeLoans_65 : decode cX3_closeLoans 65 = .ok (.istore 6, 2) := by decide +kernel
theorem dX3_closeLoans_67 : decode cX3_closeLoans 67 = .ok (.aload_n 0, 1) := by decide +kernel
theorem dX3_closeLoans_68 : decode cX3_closeLoans 68 = .ok (.iload_n 1, 1) := by decide +kernel
theorem dX3_closeLoans_69 : decode cX3_closeLoans 69 = .ok (.iload_n 3, 1) := by decide +kernel
theorem dX3_closeLoans_70 : decode cX3_closeLoans 70 = .ok (.iload 6, 2) := by decide +kernel
theorem dX3_closeLoans_72 : decode cX3_closeLoans 72 = .ok (.ineg, 1) := by decide +kernel
theorem dX3_closeLoans_73 : decode cX3_closeLoans 73 = .ok (.invokevirtual 95, 3) := by decide +kernel
theorem dX3_closeLoans_76 : decode cX3_closeLoans 76 = .ok (.aload_n 0, 1) := by decide +kernel
theorem dX3_closeLoans_77 : decode cX3_closeLoans 77 = .ok (.iload 4, 2) := by decide +kernel
theorem dX3_closeLoans_79 : decode cX3_closeLoans 79 = .ok (.iload_n 3, 1) := by decide +kernel
theorem dX3_closeLoans_80 : decode cX3_closeLoans 80 = .ok (.iload 6, 2) := by decide +kernel
theorem dX3_closeLoans_82 : decode cX3_closeLoans 82 = .ok (.invokevirtual 95, 3) := by decide +kernel
theorem dX3_closeLoans_85 : decode cX3_closeLoans 85 = .ok (.aload_n 0, 1) := by decide +kernel
theorem dX3_closeLoans_86 : decode cX3_closeLoans 86 = .ok (.getfield 38, 3) := by decide +kernel
theorem dX3_closeLoans_89 : decode cX3_closeLoans 89 = .ok (.iload 4, 2) := by decide +kernel
theorem dX3_closeLoans_91 : decode cX3_closeLoans 91 = .ok (.iconst 4, 1) := by decide +kernel
theorem dX3_closeLoans_92 : decode cX3_closeLoans 92 = .ok (.imul, 1) := by decide +kernel
theorem dX3_closeLoans_93 : decode cX3_closeLoans 93 = .ok (.iload_n 3, 1) := by decide +kernel
theorem dX3_closeLoans_94 : decode cX3_closeLoans 94 = .ok (.iadd, 1) := by decide +kernel
theorem dX3_closeLoans_95 : decode cX3_closeLoans 95 = .ok (.iconst 0, 1) := by decide +kernel
theorem dX3_closeLoans_96 : decode cX3_closeLoans 96 = .ok (.invokevirtual 48, 3) := by decide +kernel
theorem dX3_closeLoans_99 : decode cX3_closeLoans 99 = .ok (.iinc 2 1, 3) := by decide +kernel
theorem dX3_closeLoans_102 : decode cX3_closeLoans 102 = .ok (.iinc 4 (-1), 3) := by decide +kernel
theorem dX3_closeLoans_105 : decode cX3_closeLoans 105 = .ok (.goto (-89), 3) := by decide +kernel
theorem dX3_closeLoans_108 : decode cX3_closeLoans 108 = .ok (.iinc 3 (-1), 3) := by decide +kernel
theorem dX3_closeLoans_111 : decode cX3_closeLoans 111 = .ok (.goto (-107), 3) := by decide +kernel
theorem dX3_closeLoans_114 : decode cX3_closeLoans 114 = .ok (.iload_n 2, 1) := by decide +kernel
theorem dX3_closeLoans_115 : decode cX3_closeLoans 115 = .ok (.ireturn, 1) := by decide +kernel
set_option maxRecDepth 20000 in
theorem ggX3_piecesLentTo_X2_at : GoodIn wsX3_piecesLentTo wsX2_at := goodIn_r _ [8, 9, 21] (by decide +kernel) (by decide +kernel)
set_option maxRecDepth 20000 in
theorem gX3_piecesLentTo_X2_at : GoodIn wsX3_piecesLentTo (wsV RX3 54 RX2 yX2_at wsX2_at) := goodIn_app (goodIn_of _ (by decide +kernel)) ggX3_piecesLentTo_X2_at
theorem dX3_piecesLentTo_0 : decode cX3_piecesLentTo 0 = .ok (.iconst 0, 1) := by decide +kernel
theorem dX3_piecesLentTo_1 : decode cX3_piecesLentTo 1 = .ok (.istore_n 2, 1) := by decide +kernel
theorem dX3_piecesLentTo_2 : decode cX3_piecesLentTo 2 = .ok (.iconst 0, 1) := by decide +kernel
theorem dX3_piecesLentTo_3 : decode cX3_piecesLentTo 3 = .ok (.istore_n 3, 1) := by decide +kernel
theorem dX3_piecesLentTo_4 : decode cX3_piecesLentTo 4 = .ok (.iload_n 3, 1) := by decide +kernel
theorem dX3_piecesLentTo_5 : decode cX3_piecesLentTo 5 = .ok (.aload_n 0, 1) := by decide +kernel
theorem dX3_piecesLentTo_6 : decode cX3_piecesLentTo 6 = .ok (.getfield 51, 3) := by decide +kernel
theorem dX3_piecesLentTo_9 : decode cX3_piecesLentTo 9 = .ok (.if_icmp .ge 52, 3) := by decide +kernel
theorem dX3_piecesLentTo_12 : decode cX3_piecesLentTo 12 = .ok (.iconst 0, 1) := by decide +kernel
theorem dX3_piecesLentTo_13 : decode cX3_piecesLentTo 13 = .ok (.istore 4, 2) := by decide +kernel
theorem dX3_piecesLentTo_15 : decode cX3_piecesLentTo 15 = .ok (.iload 4, 2) := by decide +kernel
theorem dX3_piecesLentTo_17 : decode cX3_piecesLentTo 17 = .ok (.iconst 4, 1) := by decide +kernel
theorem dX3_piecesLentTo_18 : decode cX3_piecesLentTo 18 = .ok (.if_icmp .ge 37, 3) := by decide +kernel
theorem dX3_piecesLentTo_21 : decode cX3_piecesLentTo 21 = .ok (.aload_n 0, 1) := by decide +kernel
theorem dX3_piecesLentTo_22 : decode cX3_piecesLentTo 22 = .ok (.getfield 35, 3) := by decide +kernel
theorem dX3_piecesLentTo_25 : decode cX3_piecesLentTo 25 = .ok (.iload_n 3, 1) := by decide +kernel
theorem dX3_piecesLentTo_26 : decode cX3_piecesLentTo 26 = .ok (.invokevirtual 54, 3) := by decide +kernel
theorem dX3_piecesLentTo_29 : decode cX3_piecesLentTo 29 = .ok (.iload_n 1, 1) := by decide +kernel
theorem dX3_piecesLentTo_30 : decode cX3_piecesLentTo 30 = .ok (.if_icmp .ne 25, 3) := by decide +kernel
theorem dX3_piecesLentTo_33 : decode cX3_piecesLentTo 33 = .ok (.iload_n 2, 1) := by decide +kernel
theorem dX3_piecesLentTo_34 : decode cX3_piecesLentTo 34 = .ok (.aload_n 0, 1) := by decide +kernel
theorem dX3_piecesLentTo_35 : decode cX3_piecesLentTo 35 = .ok (.getfield 38, 3) := by decide +kernel
theorem dX3_piecesLentTo_38 : decode cX3_piecesLentTo 38 = .ok (.iload_n 3, 1) := by decide +kernel
theorem dX3_piecesLentTo_39 : decode cX3_piecesLentTo 39 = .ok (.iconst 4, 1) := by decide +kernel
theorem dX3_piecesLentTo_40 : decode cX3_piecesLentTo 40 = .ok (.imul, 1) := by decide +kernel
theorem dX3_piecesLentTo_41 : decode cX3_piecesLentTo 41 = .ok (.iload 4, 2) := by decide +kernel
theorem dX3_piecesLentTo_43 : decode cX3_piecesLentTo 43 = .ok (.iadd, 1) := by decide +kernel
theorem dX3_piecesLentTo_44 : decode cX3_piecesLentTo 44 = .ok (.invokevirtual 54, 3) := by decide +kernel
theorem dX3_piecesLentTo_47 : decode cX3_piecesLentTo 47 = .ok (.iadd, 1) := by decide +kernel
theorem dX3_piecesLentTo_48 : decode cX3_piecesLentTo 48 = .ok (.istore_n 2, 1) := by decide +kernel
theorem dX3_piecesLentTo_49 : decode cX3_piecesLentTo 49 = .ok (.iinc 4 1, 3) := by decide +kernel
theorem dX3_piecesLentTo_52 : decode cX3_piecesLentTo 52 = .ok (.goto (-37), 3) := by decide +kernel
theorem dX3_piecesLentTo_55 : decode cX3_piecesLentTo 55 = .ok (.iinc 3 1, 3) := by decide +kernel
theorem dX3_piecesLentTo_58 : decode cX3_piecesLentTo 58 = .ok (.goto (-54), 3) := by decide +kernel
theorem dX3_piecesLentTo_61 : decode cX3_piecesLentTo 61 = .ok (.iload_n 2, 1) := by decide +kernel
theorem dX3_piecesLentTo_62 : decode cX3_piecesLentTo 62 = .ok (.ireturn, 1) := by decide +kernel
set_option maxRecDepth 20000 in
theorem ggX4_init_X0_init : GoodIn wsX4_init wsX0_init := goodIn_r _ [17, 18, 2, 3, 19, 20, 21, 22, 23, 24, 25, 26, 27, 28, 29, 30, 31, 32, 33, 34, 35, 36, 37, 90, 62, 63, 64, 65, 66, 67, 68, 69, 70] (by decide +kernel) (by decide +kernel)
set_option maxRecDepth 20000 in
theorem gX4_init_X0_init_n9 : GoodIn wsX4_init (wsX0_init) := ggX4_init_X0_init
set_option maxRecDepth 20000 in
theorem ggX4_init_X3_init : GoodIn wsX4_init wsX3_init := goodIn_r _ [39, 40, 2, 3, 41, 20, 21, 42, 43, 44, 45, 46, 47, 48, 49, 50, 51, 29, 30, 31, 32, 33, 34, 35, 36, 37, 90, 74, 75, 76, 77, 78, 79, 80, 81, 82, 83, 84] (by decide +kernel) (by decide +kernel)
set_option maxRecDepth 20000 in
theorem gX4_init_X3_init_n18 : GoodIn wsX4_init (wsX3_init) := ggX4_init_X3_init
set_option maxRecDepth 20000 in
theorem ggX4_init_X1_init : GoodIn wsX4_init wsX1_init := goodIn_r _ [53, 54, 2, 3, 55, 20, 21, 56, 57, 58, 59, 60, 61, 29, 30, 31, 32, 33, 34, 35, 36, 37, 90, 85, 86, 87, 88, 89] (by decide +kernel) (by decide +kernel)
set_option maxRecDepth 20000 in
theorem gX4_init_X1_init_n25 : GoodIn wsX4_init (wsX1_init) := ggX4_init_X1_init
theorem dX4_init_0 : decode cX4_init 0 = .ok (.aload_n 0, 1) := by decide +kernel
theorem dX4_init_1 : decode cX4_init 1 = .ok (.invokespecial 1, 3) := by decide +kernel
theorem dX4_init_4 : decode cX4_init 4 = .ok (.aload_n 0, 1) := by decide +kernel
theorem dX4_init_5 : decode cX4_init 5 = .ok (.new 7, 3) := by decide +kernel
theorem dX4_init_8 : decode cX4_init 8 = .ok (.dup, 1) := by decide +kernel
theorem dX4_init_9 : decode cX4_init 9 = .ok (.invokespecial 9, 3) := by decide +kernel
theorem dX4_init_12 : decode cX4_init 12 = .ok (.putfield 10, 3) := by decide +kernel
theorem dX4_init_15 : decode cX4_init 15 = .ok (.aload_n 0, 1) := by decide +kernel
theorem dX4_init_16 : decode cX4_init 16 = .ok (.new 16, 3) := by decide +kernel
theorem dX4_init_19 : decode cX4_init 19 = .ok (.dup, 1) := by decide +kernel
theorem dX4_init_20 : decode cX4_init 20 = .ok (.invokespecial 18, 3) := by decide +kernel
theorem dX4_init_23 : decode cX4_init 23 = .ok (.putfield 19, 3) := by decide +kernel
theorem dX4_init_26 : decode cX4_init 26 = .ok (.aload_n 0, 1) := by decide +kernel
theorem dX4_init_27 : decode cX4_init 27 = .ok (.new 23, 3) := by decide +kernel
theorem dX4_init_30 : decode cX4_init 30 = .ok (.dup, 1) := by decide +kernel
theorem dX4_init_31 : decode cX4_init 31 = .ok (.invokespecial 25, 3) := by decide +kernel
theorem dX4_init_34 : decode cX4_init 34 = .ok (.putfield 26, 3) := by decide +kernel
theorem dX4_init_37 : decode cX4_init 37 = .ok (.return_, 1) := by decide +kernel
set_option maxRecDepth 20000 in
theorem ggX4_pass_X4_checkRange : GoodIn wsX4_pass wsX4_checkRange := goodIn_ca (goodIn_r _ [5, 6, 7] (by decide +kernel) (by decide +kernel)) (goodIn_sub (fun _ h => List.mem_cons_of_mem _ (List.mem_append_left _ (List.mem_append_right _ h))) (by decide +kernel))
set_option maxRecDepth 20000 in
theorem gX4_pass_X4_checkRange : GoodIn wsX4_pass (va_wsS RX4 30 yX4_checkRange wsX4_checkRange) := goodIn_app (goodIn_of _ (by decide +kernel)) ggX4_pass_X4_checkRange
set_option maxRecDepth 20000 in
theorem ggX4_pass_X4_checkState : GoodIn wsX4_pass wsX4_checkState := goodIn_ca (goodIn_r _ [10, 11, 12] (by decide +kernel) (by decide +kernel)) (goodIn_sub (fun _ h => List.mem_cons_of_mem _ (List.mem_append_right _ h)) (by decide +kernel))
set_option maxRecDepth 20000 in
theorem gX4_pass_X4_checkState : GoodIn wsX4_pass (va_wsS RX4 38 yX4_checkState wsX4_checkState) := goodIn_app (goodIn_of _ (by decide +kernel)) ggX4_pass_X4_checkState
theorem dX4_pass_0 : decode cX4_pass 0 = .ok (.iload_n 1, 1) := by decide +kernel
theorem dX4_pass_1 : decode cX4_pass 1 = .ok (.iconst 1, 1) := by decide +kernel
theorem dX4_pass_2 : decode cX4_pass 2 = .ok (.sipush 500, 3) := by decide +kernel
theorem dX4_pass_5 : decode cX4_pass 5 = .ok (.invokestatic 30, 3) := by decide +kernel
theorem dX4_pass_8 : decode cX4_pass 8 = .ok (.aload_n 0, 1) := by decide +kernel
theorem dX4_pass_9 : decode cX4_pass 9 = .ok (.getfield 10, 3) := by decide +kernel
theorem dX4_pass_12 : decode cX4_pass 12 = .ok (.getfield 34, 3) := by decide +kernel
theorem dX4_pass_15 : decode cX4_pass 15 = .ok (.iload_n 1, 1) := by decide +kernel
theorem dX4_pass_16 : decode cX4_pass 16 = .ok (.iadd, 1) := by decide +kernel
theorem dX4_pass_17 : decode cX4_pass 17 = .ok (.sipush 20000, 3) := by decide +kernel
theorem dX4_pass_20 : decode cX4_pass 20 = .ok (.if_icmp .gt 7, 3) := by decide +kernel
theorem dX4_pass_23 : decode cX4_pass 23 = .ok (.iconst 1, 1) := by decide +kernel
theorem dX4_pass_24 : decode cX4_pass 24 = .ok (.goto 4, 3) := by decide +kernel
theorem dX4_pass_27 : decode cX4_pass 27 = .ok (.iconst 0, 1) := by decide +kernel
theorem dX4_pass_28 : decode cX4_pass 28 = .ok (.invokestatic 38, 3) := by decide +kernel
theorem dX4_pass_31 : decode cX4_pass 31 = .ok (.aload_n 0, 1) := by decide +kernel
theorem dX4_pass_32 : decode cX4_pass 32 = .ok (.getfield 10, 3) := by decide +kernel
theorem dX4_pass_35 : decode cX4_pass 35 = .ok (.dup, 1) := by decide +kernel
theorem dX4_pass_36 : decode cX4_pass 36 = .ok (.getfield 34, 3) := by decide +kernel
theorem dX4_pass_39 : decode cX4_pass 39 = .ok (.iload_n 1, 1) := by decide +kernel
theorem dX4_pass_40 : decode cX4_pass 40 = .ok (.iadd, 1) := by decide +kernel
theorem dX4_pass_41 : decode cX4_pass 41 = .ok (.putfield 34, 3) := by decide +kernel
theorem dX4_pass_44 : decode cX4_pass 44 = .ok (.aload_n 0, 1) := by decide +kernel
theorem dX4_pass_45 : decode cX4_pass 45 = .ok (.getfield 10, 3) := by decide +kernel
theorem dX4_pass_48 : decode cX4_pass 48 = .ok (.getfield 34, 3) := by decide +kernel
theorem dX4_pass_51 : decode cX4_pass 51 = .ok (.ireturn, 1) := by decide +kernel
theorem dX4_now_0 : decode cX4_now 0 = .ok (.aload_n 0, 1) := by decide +kernel
theorem dX4_now_1 : decode cX4_now 1 = .ok (.getfield 10, 3) := by decide +kernel
theorem dX4_now_4 : decode cX4_now 4 = .ok (.getfield 34, 3) := by decide +kernel
theorem dX4_now_7 : decode cX4_now 7 = .ok (.ireturn, 1) := by decide +kernel
set_option maxRecDepth 20000 in
theorem ggX4_addTable_X4_checkRange : GoodIn wsX4_addTable wsX4_checkRange := goodIn_ca (goodIn_r _ [5, 6, 7] (by decide +kernel) (by decide +kernel)) (goodIn_sub (fun _ h => List.mem_cons_of_mem _ (List.mem_append_left _ (List.mem_append_right _ h))) (by decide +kernel))
set_option maxRecDepth 20000 in
theorem gX4_addTable_X4_checkRange : GoodIn wsX4_addTable (va_wsS RX4 30 yX4_checkRange wsX4_checkRange) := goodIn_app (goodIn_of _ (by decide +kernel)) ggX4_addTable_X4_checkRange
set_option maxRecDepth 20000 in
theorem ggX4_addTable_X4_checkState : GoodIn wsX4_addTable wsX4_checkState := goodIn_ca (goodIn_r _ [10, 11, 12] (by decide +kernel) (by decide +kernel)) (goodIn_sub (fun _ h => List.mem_cons_of_mem _ (List.mem_append_right _ h)) (by decide +kernel))
set_option maxRecDepth 20000 in
theorem gX4_addTable_X4_checkState : GoodIn wsX4_addTable (va_wsS RX4 38 yX4_checkState wsX4_checkState) := goodIn_app (goodIn_of _ (by decide +kernel)) ggX4_addTable_X4_checkState
set_option maxRecDepth 20000 in
theorem ggX4_addTable_X0_putTable : GoodIn wsX4_addTable wsX0_putTable := goodIn_r _ [17, 18, 19, 20, 21, 22, 23, 24, 25, 29, 30, 31, 32, 33, 34, 35, 36, 37, 38] (by decide +kernel) (by decide +kernel)
set_option maxRecDepth 20000 in
theorem gX4_addTable_X0_putTable : GoodIn wsX4_addTable (wsV RX4 45 RX0 yX0_putTable wsX0_putTable) := goodIn_app (goodIn_of _ (by decide +kernel)) ggX4_addTable_X0_putTable
theorem dX4_addTable_0 : decode cX4_addTable 0 = .ok (.iload_n 1, 1) := by decide +kernel
theorem dX4_addTable_1 : decode cX4_addTable 1 = .ok (.iconst 2, 1) := by decide +kernel
theorem dX4_addTable_2 : decode cX4_addTable 2 = .ok (.bipush 6, 2) := by decide +kernel
theorem dX4_addTable_4 : decode cX4_addTable 4 = .ok (.invokestatic 30, 3) := by decide +kernel
theorem dX4_addTable_7 : decode cX4_addTable 7 = .ok (.aload_n 0, 1) := by decide +kernel
theorem dX4_addTable_8 : decode cX4_addTable 8 = .ok (.getfield 10, 3) := by decide +kernel
theorem dX4_addTable_11 : decode cX4_addTable 11 = .ok (.getfield 42, 3) := by decide +kernel
theorem dX4_addTable_14 : decode cX4_addTable 14 = .ok (.bipush 10, 2) := by decide +kernel
theorem dX4_addTable_16 : decode cX4_addTable 16 = .ok (.if_icmp .ge 7, 3) := by decide +kernel
theorem dX4_addTable_19 : decode cX4_addTable 19 = .ok (.iconst 1, 1) := by decide +kernel
theorem dX4_addTable_20 : decode cX4_addTable 20 = .ok (.goto 4, 3) := by decide +kernel
theorem dX4_addTable_23 : decode cX4_addTable 23 = .ok (.iconst 0, 1) := by decide +kernel
theorem dX4_addTable_24 : decode cX4_addTable 24 = .ok (.invokestatic 38, 3) := by decide +kernel
theorem dX4_addTable_27 : decode cX4_addTable 27 = .ok (.aload_n 0, 1) := by decide +kernel
theorem dX4_addTable_28 : decode cX4_addTable 28 = .ok (.getfield 10, 3) := by decide +kernel
theorem dX4_addTable_31 : decode cX4_addTable 31 = .ok (.iload_n 1, 1) := by decide +kernel
theorem dX4_addTable_32 : decode cX4_addTable 32 = .ok (.invokevirtual 45, 3) := by decide +kernel
theorem dX4_addTable_35 : decode cX4_addTable 35 = .ok (.ireturn, 1) := by decide +kernel
set_option maxRecDepth 20000 in
theorem ggX4_addTitle_X4_checkRange : GoodIn wsX4_addTitle wsX4_checkRange := goodIn_ca (goodIn_r _ [5, 6, 7] (by decide +kernel) (by decide +kernel)) (goodIn_sub (fun _ h => List.mem_cons_of_mem _ (List.mem_append_left _ (List.mem_append_right _ h))) (by decide +kernel))
set_option maxRecDepth 20000 in
theorem gX4_addTitle_X4_checkRange : GoodIn wsX4_addTitle (va_wsS RX4 30 yX4_checkRange wsX4_checkRange) := goodIn_app (goodIn_of _ (by decide +kernel)) ggX4_addTitle_X4_checkRange
set_option maxRecDepth 20000 in
theorem ggX4_addTitle_X4_checkState : GoodIn wsX4_addTitle wsX4_checkState := goodIn_ca (goodIn_r _ [10, 11, 12] (by decide +kernel) (by decide +kernel)) (goodIn_sub (fun _ h => List.mem_cons_of_mem _ (List.mem_append_right _ h)) (by decide +kernel))
set_option maxRecDepth 20000 in
theorem gX4_addTitle_X4_checkState : GoodIn wsX4_addTitle (va_wsS RX4 38 yX4_checkState wsX4_checkState) := goodIn_app (goodIn_of _ (by decide +kernel)) ggX4_addTitle_X4_checkState
set_option maxRecDepth 20000 in
theorem ggX4_addTitle_X3_putTitle : GoodIn wsX4_addTitle wsX3_putTitle := goodIn_r _ [17, 18, 19, 20, 21, 22, 23, 24, 25, 26, 27, 36, 37, 38, 39, 40, 41, 42, 43, 44, 45, 46, 47] (by decide +kernel) (by decide +kernel)
set_option maxRecDepth 20000 in
theorem gX4_addTitle_X3_putTitle : GoodIn wsX4_addTitle (wsV RX4 52 RX3 yX3_putTitle wsX3_putTitle) := goodIn_app (goodIn_of _ (by decide +kernel)) ggX4_addTitle_X3_putTitle
set_option maxRecDepth 20000 in
theorem ggX4_addTitle_X3_setFull : GoodIn wsX4_addTitle wsX3_setFull := goodIn_r _ [31, 32, 22, 23, 24, 25, 26, 27, 36, 37, 38, 39, 40, 41, 42, 43, 44, 45, 46, 47] (by decide +kernel) (by decide +kernel)
set_option maxRecDepth 20000 in
theorem gX4_addTitle_X3_setFull : GoodIn wsX4_addTitle (wsV RX4 56 RX3 yX3_setFull wsX3_setFull) := goodIn_app (goodIn_of _ (by decide +kernel)) ggX4_addTitle_X3_setFull
theorem dX4_addTitle_0 : decode cX4_addTitle 0 = .ok (.iload_n 1, 1) := by decide +kernel
theorem dX4_addTitle_1 : decode cX4_addTitle 1 = .ok (.iconst 1, 1) := by decide +kernel
theorem dX4_addTitle_2 : decode cX4_addTitle 2 = .ok (.bipush 12, 2) := by decide +kernel
theorem dX4_addTitle_4 : decode cX4_addTitle 4 = .ok (.invokestatic 30, 3) := by decide +kernel
theorem dX4_addTitle_7 : decode cX4_addTitle 7 = .ok (.iload_n 2, 1) := by decide +kernel
theorem dX4_addTitle_8 : decode cX4_addTitle 8 = .ok (.iload_n 1, 1) := by decide +kernel
theorem dX4_addTitle_9 : decode cX4_addTitle 9 = .ok (.bipush 12, 2) := by decide +kernel
theorem dX4_addTitle_11 : decode cX4_addTitle 11 = .ok (.invokestatic 30, 3) := by decide +kernel
theorem dX4_addTitle_14 : decode cX4_addTitle 14 = .ok (.iload_n 3, 1) := by decide +kernel
theorem dX4_addTitle_15 : decode cX4_addTitle 15 = .ok (.iconst 5, 1) := by decide +kernel
theorem dX4_addTitle_16 : decode cX4_addTitle 16 = .ok (.sipush 300, 3) := by decide +kernel
theorem dX4_addTitle_19 : decode cX4_addTitle 19 = .ok (.invokestatic 30, 3) := by decide +kernel
theorem dX4_addTitle_22 : decode cX4_addTitle 22 = .ok (.iload 4, 2) := by decide +kernel
theorem dX4_addTitle_24 : decode cX4_addTitle 24 = .ok (.iconst 0, 1) := by decide +kernel
theorem dX4_addTitle_25 : decode cX4_addTitle 25 = .ok (.bipush 9, 2) := by decide +kernel
theorem dX4_addTitle_27 : decode cX4_addTitle 27 = .ok (.invokestatic 30, 3) := by decide +kernel
theorem dX4_addTitle_30 : decode cX4_addTitle 30 = .ok (.iload 5, 2) := by decide +kernel
theorem dX4_addTitle_32 : decode cX4_addTitle 32 = .ok (.iconst 0, 1) := by decide +kernel
theorem dX4_addTitle_33 : decode cX4_addTitle 33 = .ok (.bipush 9, 2) := by decide +kernel
theorem dX4_addTitle_35 : decode cX4_addTitle 35 = .ok (.invokestatic 30, 3) := by decide +kernel
theorem dX4_addTitle_38 : decode cX4_addTitle 38 = .ok (.iload 6, 2) := by decide +kernel
theorem dX4_addTitle_40 : decode cX4_addTitle 40 = .ok (.iconst 0, 1) := by decide +kernel
theorem dX4_addTitle_41 : decode cX4_addTitle 41 = .ok (.bipush 9, 2) := by decide +kernel
theorem dX4_addTitle_43 : decode cX4_addTitle 43 = .ok (.invokestatic 30, 3) := by decide +kernel
theorem dX4_addTitle_46 : decode cX4_addTitle 46 = .ok (.iload 7, 2) := by decide +kernel
theorem dX4_addTitle_48 : decode cX4_addTitle 48 = .ok (.iconst 0, 1) := by decide +kernel
theorem dX4_addTitle_49 : decode cX4_addTitle 49 = .ok (.bipush 9, 2) := by decide +kernel
theorem dX4_addTitle_51 : decode cX4_addTitle 51 = .ok (.invokestatic 30, 3) := by decide +kernel
theorem dX4_addTitle_54 : decode cX4_addTitle 54 = .ok (.aload_n 0, 1) := by decide +kernel
theorem dX4_addTitle_55 : decode cX4_addTitle 55 = .ok (.getfield 19, 3) := by decide +kernel
theorem dX4_addTitle_58 : decode cX4_addTitle 58 = .ok (.getfield 49, 3) := by decide +kernel
theorem dX4_addTitle_61 : decode cX4_addTitle 61 = .ok (.bipush 8, 2) := by decide +kernel
theorem dX4_addTitle_63 : decode cX4_addTitle 63 = .ok (.if_icmp .ge 7, 3) := by decide +kernel
theorem dX4_addTitle_66 : decode cX4_addTitle 66 = .ok (.iconst 1, 1) := by decide +kernel
theorem dX4_addTitle_67 : decode cX4_addTitle 67 = .ok (.goto 4, 3) := by decide +kernel
theorem dX4_addTitle_70 : decode cX4_addTitle 70 = .ok (.iconst 0, 1) := by decide +kernel
theorem dX4_addTitle_71 : decode cX4_addTitle 71 = .ok (.invokestatic 38, 3) := by decide +kernel
theorem dX4_addTitle_74 : decode cX4_addTitle 74 = .ok (.aload_n 0, 1) := by decide +kernel
theorem dX4_addTitle_75 : decode cX4_addTitle 75 = .ok (.getfield 19, 3) := by decide +kernel
theorem dX4_addTitle_78 : decode cX4_addTitle 78 = .ok (.iload_n 1, 1) := by decide +kernel
theorem dX4_addTitle_79 : decode cX4_addTitle 79 = .ok (.iload_n 2, 1) := by decide +kernel
theorem dX4_addTitle_80 : decode cX4_addTitle 80 = .ok (.iload_n 3, 1) := by decide +kernel
theorem dX4_addTitle_81 : decode cX4_addTitle 81 = .ok (.invokevirtual 52, 3) := by decide +kernel
theorem dX4_addTitle_84 : decode cX4_addTitle 84 = .ok (.istore 8, 2) := by decide +kernel
theorem dX4_addTitle_86 : decode cX4_addTitle 86 = .ok (.aload_n 0, 1) := by decide +kernel
theorem dX4_addTitle_87 : decode cX4_addTitle 87 = .ok (.getfield 19, 3) := by decide +kernel
theorem dX4_addTitle_90 : decode cX4_addTitle 90 = .ok (.iload 8, 2) := by decide +kernel
theorem dX4_addTitle_92 : decode cX4_addTitle 92 = .ok (.iconst 0, 1) := by decide +kernel
theorem dX4_addTitle_93 : decode cX4_addTitle 93 = .ok (.iload 4, 2) := by decide +kernel
theorem dX4_addTitle_95 : decode cX4_addTitle 95 = .ok (.invokevirtual 56, 3) := by decide +kernel
theorem dX4_addTitle_98 : decode cX4_addTitle 98 = .ok (.aload_n 0, 1) := by decide +kernel
theorem dX4_addTitle_99 : decode cX4_addTitle 99 = .ok (.getfield 19, 3) := by decide +kernel
theorem dX4_addTitle_102 : decode cX4_addTitle 102 = .ok (.iload 8, 2) := by decide +kernel
theorem dX4_addTitle_104 : decode cX4_addTitle 104 = .ok (.iconst 1, 1) := by decide +kernel
theorem dX4_addTitle_105 : decode cX4_addTitle 105 = .ok (.iload 5, 2) := by decide +kernel
theorem dX4_addTitle_107 : decode cX4_addTitle 107 = .ok (.invokevirtual 56, 3) := by decide +kernel
theorem dX4_addTitle_110 : decode cX4_addTitle 110 = .ok (.aload_n 0, 1) := by decide +kernel
theorem dX4_addTitle_111 : decode cX4_addTitle 111 = .ok (.getfield 19, 3) := by decide +kernel
theorem dX4_addTitle_114 : decode cX4_addTitle 114 = .ok (.iload 8, 2) := by decide +kernel
theorem dX4_addTitle_116 : decode cX4_addTitle 116 = .ok (.iconst 2, 1) := by decide +kernel
theorem dX4_addTitle_117 : decode cX4_addTitle 117 = .ok (.iload 6, 2) := by decide +kernel
theorem dX4_addTitle_119 : decode cX4_addTitle 119 = .ok (.invokevirtual 56, 3) := by decide +kernel
theorem dX4_addTitle_122 : decode cX4_addTitle 122 = .ok (.aload_n 0, 1) := by decide +kernel
theorem dX4_addTitle_123 : decode cX4_addTitle 123 = .ok (.getfield 19, 3) := by decide +kernel
theorem dX4_addTitle_126 : decode cX4_addTitle 126 = .ok (.iload 8, 2) := by decide +kernel
theorem dX4_addTitle_128 : decode cX4_addTitle 128 = .ok (.iconst 3, 1) := by decide +kernel
theorem dX4_addTitle_129 : decode cX4_addTitle 129 = .ok (.iload 7, 2) := by decide +kernel
theorem dX4_addTitle_131 : decode cX4_addTitle 131 = .ok (.invokevirtual 56, 3) := by decide +kernel
theorem dX4_addTitle_134 : decode cX4_addTitle 134 = .ok (.iload 8, 2) := by decide +kernel
theorem dX4_addTitle_136 : decode cX4_addTitle 136 = .ok (.ireturn, 1) := by decide +kernel
set_option maxRecDepth 20000 in
theorem ggX4_addCopy_X4_checkIndex : GoodIn wsX4_addCopy wsX4_checkIndex := goodIn_ca (goodIn_r _ [5, 6, 7] (by decide +kernel) (by decide +kernel)) (goodIn_sub (fun _ h => List.mem_cons_of_mem _ (List.mem_append_left _ (List.mem_append_right _ h))) (by decide +kernel))
set_option maxRecDepth 20000 in
theorem gX4_addCopy_X4_checkIndex : GoodIn wsX4_addCopy (va_wsS RX4 59 yX4_checkIndex wsX4_checkIndex) := goodIn_app (goodIn_of _ (by decide +kernel)) ggX4_addCopy_X4_checkIndex
set_option maxRecDepth 20000 in
theorem ggX4_addCopy_X4_checkState : GoodIn wsX4_addCopy wsX4_checkState := goodIn_ca (goodIn_r _ [10, 11, 12] (by decide +kernel) (by decide +kernel)) (goodIn_sub (fun _ h => List.mem_cons_of_mem _ (List.mem_append_right _ h)) (by decide +kernel))
set_option maxRecDepth 20000 in
theorem gX4_addCopy_X4_checkState : GoodIn wsX4_addCopy (va_wsS RX4 38 yX4_checkState wsX4_checkState) := goodIn_app (goodIn_of _ (by decide +kernel)) ggX4_addCopy_X4_checkState
set_option maxRecDepth 20000 in
theorem ggX4_addCopy_X3_putCopy : GoodIn wsX4_addCopy wsX3_putCopy := goodIn_r _ [17, 18, 19, 20, 21, 22, 23, 24, 25, 26, 27, 28, 29, 30, 31, 35, 36, 37, 38, 39, 40, 41, 42, 43, 44, 45, 46] (by decide +kernel) (by decide +kernel)
set_option maxRecDepth 20000 in
theorem gX4_addCopy_X3_putCopy : GoodIn wsX4_addCopy (wsV RX4 66 RX3 yX3_putCopy wsX3_putCopy) := goodIn_app (goodIn_of _ (by decide +kernel)) ggX4_addCopy_X3_putCopy
theorem dX4_addCopy_0 : decode cX4_addCopy 0 = .ok (.iload_n 1, 1) := by decide +kernel
theorem dX4_addCopy_1 : decode cX4_addCopy 1 = .ok (.aload_n 0, 1) := by decide +kernel
theorem dX4_addCopy_2 : decode cX4_addCopy 2 = .ok (.getfield 19, 3) := by decide +kernel
theorem dX4_addCopy_5 : decode cX4_addCopy 5 = .ok (.getfield 49, 3) := by decide +kernel
theorem dX4_addCopy_8 : decode cX4_addCopy 8 = .ok (.invokestatic 59, 3) := by decide +kernel
theorem dX4_addCopy_11 : decode cX4_addCopy 11 = .ok (.aload_n 0, 1) := by decide +kernel
theorem dX4_addCopy_12 : decode cX4_addCopy 12 = .ok (.getfield 19, 3) := by decide +kernel
theorem dX4_addCopy_15 : decode cX4_addCopy 15 = .ok (.getfield 63, 3) := by decide +kernel
theorem dX4_addCopy_18 : decode cX4_addCopy 18 = .ok (.bipush 16, 2) := by decide +kernel
theorem dX4_addCopy_20 : decode cX4_addCopy 20 = .ok (.if_icmp .ge 7, 3) := by decide +kernel
theorem dX4_addCopy_23 : decode cX4_addCopy 23 = .ok (.iconst 1, 1) := by decide +kernel
theorem dX4_addCopy_24 : decode cX4_addCopy 24 = .ok (.goto 4, 3) := by decide +kernel
theorem dX4_addCopy_27 : decode cX4_addCopy 27 = .ok (.iconst 0, 1) := by decide +kernel
theorem dX4_addCopy_28 : decode cX4_addCopy 28 = .ok (.invokestatic 38, 3) := by decide +kernel
theorem dX4_addCopy_31 : decode cX4_addCopy 31 = .ok (.aload_n 0, 1) := by decide +kernel
theorem dX4_addCopy_32 : decode cX4_addCopy 32 = .ok (.getfield 19, 3) := by decide +kernel
theorem dX4_addCopy_35 : decode cX4_addCopy 35 = .ok (.iload_n 1, 1) := by decide +kernel
theorem dX4_addCopy_36 : decode cX4_addCopy 36 = .ok (.invokevirtual 66, 3) := by decide +kernel
theorem dX4_addCopy_39 : decode cX4_addCopy 39 = .ok (.ireturn, 1) := by decide +kernel
set_option maxRecDepth 20000 in
theorem ggX4_addRule_X4_checkIndex : GoodIn wsX4_addRule wsX4_checkIndex := goodIn_ca (goodIn_r _ [6, 7, 8] (by decide +kernel) (by decide +kernel)) (goodIn_sub (fun _ h => List.mem_cons_of_mem _ (List.mem_append_left _ (List.mem_append_left _ (List.mem_append_right _ h)))) (by decide +kernel))
set_option maxRecDepth 20000 in
theorem gX4_addRule_X4_checkIndex : GoodIn wsX4_addRule (va_wsS RX4 59 yX4_checkIndex wsX4_checkIndex) := goodIn_app (goodIn_of _ (by decide +kernel)) ggX4_addRule_X4_checkIndex
set_option maxRecDepth 20000 in
theorem ggX4_addRule_X1_rulesOf : GoodIn wsX4_addRule wsX1_rulesOf := goodIn_r _ [13, 14, 15, 16, 17, 18, 19, 20, 57, 58, 59, 60, 61, 62] (by decide +kernel) (by decide +kernel)
set_option maxRecDepth 20000 in
theorem gX4_addRule_X1_rulesOf : GoodIn wsX4_addRule (wsV RX4 69 RX1 yX1_rulesOf wsX1_rulesOf) := goodIn_app (goodIn_of _ (by decide +kernel)) ggX4_addRule_X1_rulesOf
set_option maxRecDepth 20000 in
theorem ggX4_addRule_X4_checkRange : GoodIn wsX4_addRule wsX4_checkRange := goodIn_ca (goodIn_r _ [23, 24, 25] (by decide +kernel) (by decide +kernel)) (goodIn_sub (fun _ h => List.mem_cons_of_mem _ (List.mem_append_left _ (List.mem_append_right _ h))) (by decide +kernel))
set_option maxRecDepth 20000 in
theorem gX4_addRule_X4_checkRange : GoodIn wsX4_addRule (va_wsS RX4 30 yX4_checkRange wsX4_checkRange) := goodIn_app (goodIn_of _ (by decide +kernel)) ggX4_addRule_X4_checkRange
set_option maxRecDepth 20000 in
theorem ggX4_addRule_X4_checkState : GoodIn wsX4_addRule wsX4_checkState := goodIn_ca (goodIn_r _ [28, 29, 30] (by decide +kernel) (by decide +kernel)) (goodIn_sub (fun _ h => List.mem_cons_of_mem _ (List.mem_append_right _ h)) (by decide +kernel))
set_option maxRecDepth 20000 in
theorem gX4_addRule_X4_checkState : GoodIn wsX4_addRule (va_wsS RX4 38 yX4_checkState wsX4_checkState) := goodIn_app (goodIn_of _ (by decide +kernel)) ggX4_addRule_X4_checkState
set_option maxRecDepth 20000 in
theorem ggX4_addRule_X1_putRule : GoodIn wsX4_addRule wsX1_putRule := goodIn_r _ [34, 14, 35, 36, 37, 38, 15, 16, 17, 18, 19, 20, 39, 40, 41, 42, 57, 58, 59, 60, 61, 62] (by decide +kernel) (by decide +kernel)
set_option maxRecDepth 20000 in
theorem gX4_addRule_X1_putRule : GoodIn wsX4_addRule (wsV RX4 72 RX1 yX1_putRule wsX1_putRule) := goodIn_app (goodIn_of _ (by decide +kernel)) ggX4_addRule_X1_putRule
theorem dX4_addRule_0 : decode cX4_addRule 0 = .ok (.iload_n 1, 1) := by decide +kernel
theorem dX4_addRule_1 : decode cX4_addRule 1 = .ok (.aload_n 0, 1) := by decide +kernel
theorem dX4_addRule_2 : decode cX4_addRule 2 = .ok (.getfield 19, 3) := by decide +kernel
theorem dX4_addRule_5 : decode cX4_addRule 5 = .ok (.getfield 49, 3) := by decide +kernel
theorem dX4_addRule_8 : decode cX4_addRule 8 = .ok (.invokestatic 59, 3) := by decide +kernel
theorem dX4_addRule_11 : decode cX4_addRule 11 = .ok (.iload_n 2, 1) := by decide +kernel
theorem dX4_addRule_12 : decode cX4_addRule 12 = .ok (.iconst (-1), 1) := by decide +kernel
theorem dX4_addRule_13 : decode cX4_addRule 13 = .ok (.if_icmp .eq 15, 3) := by decide +kernel
theorem dX4_addRule_16 : decode cX4_addRule 16 = .ok (.iload_n 2, 1) := by decide +kernel
theorem dX4_addRule_17 : decode cX4_addRule 17 = .ok (.aload_n 0, 1) := by decide +kernel
theorem dX4_addRule_18 : decode cX4_addRule 18 = .ok (.getfield 26, 3) := by decide +kernel
theorem dX4_addRule_21 : decode cX4_addRule 21 = .ok (.iload_n 1, 1) := by decide +kernel
theorem dX4_addRule_22 : decode cX4_addRule 22 = .ok (.invokevirtual 69, 3) := by decide +kernel
theorem dX4_addRule_25 : decode cX4_addRule 25 = .ok (.invokestatic 59, 3) := by decide +kernel
theorem dX4_addRule_28 : decode cX4_addRule 28 = .ok (.iload_n 3, 1) := by decide +kernel
theorem dX4_addRule_29 : decode cX4_addRule 29 = .ok (.iconst 0, 1) := by decide +kernel
theorem dX4_addRule_30 : decode cX4_addRule 30 = .ok (.iconst 3, 1) := by decide +kernel
theorem dX4_addRule_31 : decode cX4_addRule 31 = .ok (.invokestatic 30, 3) := by decide +kernel
theorem dX4_addRule_34 : decode cX4_addRule 34 = .ok (.iload 4, 2) := by decide +kernel
theorem dX4_addRule_36 : decode cX4_addRule 36 = .ok (.iconst 1, 1) := by decide +kernel
theorem dX4_addRule_37 : decode cX4_addRule 37 = .ok (.sipush 300, 3) := by decide +kernel
theorem dX4_addRule_40 : decode cX4_addRule 40 = .ok (.invokestatic 30, 3) := by decide +kernel
theorem dX4_addRule_43 : decode cX4_addRule 43 = .ok (.iload 5, 2) := by decide +kernel
theorem dX4_addRule_45 : decode cX4_addRule 45 = .ok (.iconst 0, 1) := by decide +kernel
theorem dX4_addRule_46 : decode cX4_addRule 46 = .ok (.bipush 99, 2) := by decide +kernel
theorem dX4_addRule_48 : decode cX4_addRule 48 = .ok (.invokestatic 30, 3) := by decide +kernel
theorem dX4_addRule_51 : decode cX4_addRule 51 = .ok (.aload_n 0, 1) := by decide +kernel
theorem dX4_addRule_52 : decode cX4_addRule 52 = .ok (.getfield 26, 3) := by decide +kernel
theorem dX4_addRule_55 : decode cX4_addRule 55 = .ok (.iload_n 1, 1) := by decide +kernel
theorem dX4_addRule_56 : decode cX4_addRule 56 = .ok (.invokevirtual 69, 3) := by decide +kernel
theorem dX4_addRule_59 : decode cX4_addRule 59 = .ok (.bipush 12, 2) := by decide +kernel
theorem dX4_addRule_61 : decode cX4_addRule 61 = .ok (.if_icmp .ge 7, 3) := by decide +kernel
theorem dX4_addRule_64 : decode cX4_addRule 64 = .ok (.iconst 1, 1) := by decide +kernel
theorem dX4_addRule_65 : decode cX4_addRule 65 = .ok (.goto 4, 3) := by decide +kernel
theorem dX4_addRule_68 : decode cX4_addRule 68 = .ok (.iconst 0, 1) := by decide +kernel
theorem dX4_addRule_69 : decode cX4_addRule 69 = .ok (.invokestatic 38, 3) := by decide +kernel
theorem dX4_addRule_72 : decode cX4_addRule 72 = .ok (.aload_n 0, 1) := by decide +kernel
theorem dX4_addRule_73 : decode cX4_addRule 73 = .ok (.getfield 26, 3) := by decide +kernel
theorem dX4_addRule_76 : decode cX4_addRule 76 = .ok (.iload_n 1, 1) := by decide +kernel
theorem dX4_addRule_77 : decode cX4_addRule 77 = .ok (.iload_n 2, 1) := by decide +kernel
theorem dX4_addRule_78 : decode cX4_addRule 78 = .ok (.iload_n 3, 1) := by decide +kernel
theorem dX4_addRule_79 : decode cX4_addRule 79 = .ok (.iload 4, 2) := by decide +kernel
theorem dX4_addRule_81 : decode cX4_addRule 81 = .ok (.iload 5, 2) := by decide +kernel
theorem dX4_addRule_83 : decode cX4_addRule 83 = .ok (.invokevirtual 72, 3) := by decide +kernel
theorem dX4_addRule_86 : decode cX4_addRule 86 = .ok (.ireturn, 1) := by decide +kernel
set_option maxRecDepth 20000 in
theorem ggX4_arrive_X4_checkRange : GoodIn wsX4_arrive wsX4_checkRange := goodIn_ca (goodIn_r _ [5, 6, 7] (by decide +kernel) (by decide +kernel)) (goodIn_sub (fun _ h => List.mem_cons_of_mem _ (List.mem_append_left _ (List.mem_append_right _ h))) (by decide +kernel))
set_option maxRecDepth 20000 in
theorem gX4_arrive_X4_checkRange : GoodIn wsX4_arrive (va_wsS RX4 30 yX4_checkRange wsX4_checkRange) := goodIn_app (goodIn_of _ (by decide +kernel)) ggX4_arrive_X4_checkRange
set_option maxRecDepth 20000 in
theorem ggX4_arrive_X4_checkState : GoodIn wsX4_arrive wsX4_checkState := goodIn_ca (goodIn_r _ [10, 11, 12] (by decide +kernel) (by decide +kernel)) (goodIn_sub (fun _ h => List.mem_cons_of_mem _ (List.mem_append_right _ h)) (by decide +kernel))
set_option maxRecDepth 20000 in
theorem gX4_arrive_X4_checkState : GoodIn wsX4_arrive (va_wsS RX4 38 yX4_checkState wsX4_checkState) := goodIn_app (goodIn_of _ (by decide +kernel)) ggX4_arrive_X4_checkState
set_option maxRecDepth 20000 in
theorem ggX4_arrive_X0_welcome : GoodIn wsX4_arrive wsX0_welcome := goodIn_r _ [17, 18, 19, 20, 21, 22, 23, 24, 25, 26, 27, 28, 29, 16, 30, 31, 32, 33, 34, 35, 36, 37, 38, 39, 40, 41, 42, 43, 44, 45, 46, 47, 48, 49, 50, 51, 52, 53, 54, 55, 56, 57, 58, 59, 60, 61, 62, 66, 67, 68, 69, 70, 71, 72, 73, 74, 75] (by decide +kernel) (by decide +kernel)
set_option maxRecDepth 20000 in
theorem gX4_arrive_X0_welcome : GoodIn wsX4_arrive (wsV RX4 79 RX0 yX0_welcome wsX0_welcome) := goodIn_app (goodIn_of _ (by decide +kernel)) ggX4_arrive_X0_welcome
theorem dX4_arrive_0 : decode cX4_arrive 0 = .ok (.iload_n 1, 1) := by decide +kernel
theorem dX4_arrive_1 : decode cX4_arrive 1 = .ok (.iconst 1, 1) := by decide +kernel
theorem dX4_arrive_2 : decode cX4_arrive 2 = .ok (.bipush 12, 2) := by decide +kernel
theorem dX4_arrive_4 : decode cX4_arrive 4 = .ok (.invokestatic 30, 3) := by decide +kernel
theorem dX4_arrive_7 : decode cX4_arrive 7 = .ok (.iload_n 2, 1) := by decide +kernel
theorem dX4_arrive_8 : decode cX4_arrive 8 = .ok (.bipush 10, 2) := by decide +kernel
theorem dX4_arrive_10 : decode cX4_arrive 10 = .ok (.sipush 600, 3) := by decide +kernel
theorem dX4_arrive_13 : decode cX4_arrive 13 = .ok (.invokestatic 30, 3) := by decide +kernel
theorem dX4_arrive_16 : decode cX4_arrive 16 = .ok (.aload_n 0, 1) := by decide +kernel
theorem dX4_arrive_17 : decode cX4_arrive 17 = .ok (.getfield 10, 3) := by decide +kernel
theorem dX4_arrive_20 : decode cX4_arrive 20 = .ok (.getfield 76, 3) := by decide +kernel
theorem dX4_arrive_23 : decode cX4_arrive 23 = .ok (.bipush 30, 2) := by decide +kernel
theorem dX4_arrive_25 : decode cX4_arrive 25 = .ok (.if_icmp .ge 7, 3) := by decide +kernel
theorem dX4_arrive_28 : decode cX4_arrive 28 = .ok (.iconst 1, 1) := by decide +kernel
theorem dX4_arrive_29 : decode cX4_arrive 29 = .ok (.goto 4, 3) := by decide +kernel
theorem dX4_arrive_32 : decode cX4_arrive 32 = .ok (.iconst 0, 1) := by decide +kernel
theorem dX4_arrive_33 : decode cX4_arrive 33 = .ok (.invokestatic 38, 3) := by decide +kernel
theorem dX4_arrive_36 : decode cX4_arrive 36 = .ok (.aload_n 0, 1) := by decide +kernel
theorem dX4_arrive_37 : decode cX4_arrive 37 = .ok (.getfield 10, 3) := by decide +kernel
theorem dX4_arrive_40 : decode cX4_arrive 40 = .ok (.iload_n 1, 1) := by decide +kernel
theorem dX4_arrive_41 : decode cX4_arrive 41 = .ok (.iload_n 2, 1) := by decide +kernel
theorem dX4_arrive_42 : decode cX4_arrive 42 = .ok (.invokevirtual 79, 3) := by decide +kernel
theorem dX4_arrive_45 : decode cX4_arrive 45 = .ok (.ireturn, 1) := by decide +kernel
set_option maxRecDepth 20000 in
theorem ggX4_leave_X4_checkIndex : GoodIn wsX4_leave wsX4_checkIndex := goodIn_ca (goodIn_r _ [6, 7, 8] (by decide +kernel) (by decide +kernel)) (goodIn_sub (fun _ h => List.mem_cons_of_mem _ (List.mem_append_left _ (List.mem_append_right _ h))) (by decide +kernel))
set_option maxRecDepth 20000 in
theorem gX4_leave_X4_checkIndex : GoodIn wsX4_leave (va_wsS RX4 59 yX4_checkIndex wsX4_checkIndex) := goodIn_app (goodIn_of _ (by decide +kernel)) ggX4_leave_X4_checkIndex
set_option maxRecDepth 20000 in
theorem ggX4_leave_X3_heldBy : GoodIn wsX4_leave wsX3_heldBy := goodIn_r _ [13, 14, 15, 16, 17, 18, 19, 20, 21, 92, 93, 94, 95, 96, 97, 98, 99, 100, 101, 102, 103] (by decide +kernel) (by decide +kernel)
set_option maxRecDepth 20000 in
theorem gX4_leave_X3_heldBy : GoodIn wsX4_leave (wsV RX4 83 RX3 yX3_heldBy wsX3_heldBy) := goodIn_app (goodIn_of _ (by decide +kernel)) ggX4_leave_X3_heldBy
set_option maxRecDepth 20000 in
theorem ggX4_leave_X0_isGone : GoodIn wsX4_leave wsX0_isGone := goodIn_r _ [26, 27, 28, 17, 18, 19, 20, 21, 83, 84, 85, 86, 87, 88, 89, 90, 91, 103] (by decide +kernel) (by decide +kernel)
set_option maxRecDepth 20000 in
theorem gX4_leave_X0_isGone : GoodIn wsX4_leave (wsV RX4 86 RX0 yX0_isGone wsX0_isGone) := goodIn_app (goodIn_of _ (by decide +kernel)) ggX4_leave_X0_isGone
set_option maxRecDepth 20000 in
theorem ggX4_leave_X4_checkState : GoodIn wsX4_leave wsX4_checkState := goodIn_ca (goodIn_r _ [31, 32, 33] (by decide +kernel) (by decide +kernel)) (goodIn_sub (fun _ h => List.mem_cons_of_mem _ (List.mem_append_right _ h)) (by decide +kernel))
set_option maxRecDepth 20000 in
theorem gX4_leave_X4_checkState : GoodIn wsX4_leave (va_wsS RX4 38 yX4_checkState wsX4_checkState) := goodIn_app (goodIn_of _ (by decide +kernel)) ggX4_leave_X4_checkState
set_option maxRecDepth 20000 in
theorem ggX4_leave_X0_dismiss : GoodIn wsX4_leave wsX0_dismiss := goodIn_r _ [37, 27, 38, 39, 40, 41, 42, 19, 43, 21, 28, 17, 18, 20, 44, 45, 46, 25, 47, 48, 49, 50, 51, 52, 53, 54, 55, 56, 57, 58, 59, 60, 61, 62, 63, 64, 65, 66, 67, 68, 69, 70, 71, 72, 73, 74, 75, 76, 77, 78, 79, 83, 84, 85, 86, 87, 88, 89, 90, 91, 103] (by decide +kernel) (by decide +kernel)
set_option maxRecDepth 20000 in
theorem gX4_leave_X0_dismiss : GoodIn wsX4_leave (wsV RX4 90 RX0 yX0_dismiss wsX0_dismiss) := goodIn_app (goodIn_of _ (by decide +kernel)) ggX4_leave_X0_dismiss
theorem dX4_leave_0 : decode cX4_leave 0 = .ok (.iload_n 1, 1) := by decide +kernel
theorem dX4_leave_1 : decode cX4_leave 1 = .ok (.aload_n 0, 1) := by decide +kernel
theorem dX4_leave_2 : decode cX4_leave 2 = .ok (.getfield 10, 3) := by decide +kernel
theorem dX4_leave_5 : decode cX4_leave 5 = .ok (.getfield 76, 3) := by decide +kernel
theorem dX4_leave_8 : decode cX4_leave 8 = .ok (.invokestatic 59, 3) := by decide +kernel
theorem dX4_leave_11 : decode cX4_leave 11 = .ok (.aload_n 0, 1) := by decide +kernel
theorem dX4_leave_12 : decode cX4_leave 12 = .ok (.getfield 19, 3) := by decide +kernel
theorem dX4_leave_15 : decode cX4_leave 15 = .ok (.iload_n 1, 1) := by decide +kernel
theorem dX4_leave_16 : decode cX4_leave 16 = .ok (.invokevirtual 83, 3) := by decide +kernel
theorem dX4_leave_19 : decode cX4_leave 19 = .ok (.iconst (-1), 1) := by decide +kernel
theorem dX4_leave_20 : decode cX4_leave 20 = .ok (.if_icmp .ne 18, 3) := by decide +kernel
theorem dX4_leave_23 : decode cX4_leave 23 = .ok (.aload_n 0, 1) := by decide +kernel
theorem dX4_leave_24 : decode cX4_leave 24 = .ok (.getfield 10, 3) := by decide +kernel
theorem dX4_leave_27 : decode cX4_leave 27 = .ok (.iload_n 1, 1) := by decide +kernel
theorem dX4_leave_28 : decode cX4_leave 28 = .ok (.invokevirtual 86, 3) := by decide +kernel
theorem dX4_leave_31 : decode cX4_leave 31 = .ok (.ifCond .ne 7, 3) := by decide +kernel
theorem dX4_leave_34 : decode cX4_leave 34 = .ok (.iconst 1, 1) := by decide +kernel
theorem dX4_leave_35 : decode cX4_leave 35 = .ok (.goto 4, 3) := by decide +kernel
theorem dX4_leave_38 : decode cX4_leave 38 = .ok (.iconst 0, 1) := by decide +kernel
theorem dX4_leave_39 : decode cX4_leave 39 = .ok (.invokestatic 38, 3) := by decide +kernel
theorem dX4_leave_42 : decode cX4_leave 42 = .ok (.aload_n 0, 1) := by decide +kernel
theorem dX4_leave_43 : decode cX4_leave 43 = .ok (.getfield 10, 3) := by decide +kernel
theorem dX4_leave_46 : decode cX4_leave 46 = .ok (.iload_n 1, 1) := by decide +kernel
theorem dX4_leave_47 : decode cX4_leave 47 = .ok (.invokevirtual 90, 3) := by decide +kernel
theorem dX4_leave_50 : decode cX4_leave 50 = .ok (.ireturn, 1) := by decide +kernel
set_option maxRecDepth 20000 in
theorem ggX4_tableOf_X4_checkIndex : GoodIn wsX4_tableOf wsX4_checkIndex := goodIn_ca (goodIn_r _ [5, 6, 7] (by decide +kernel) (by decide +kernel)) (goodIn_sub (fun _ h => List.mem_cons_of_mem _ (List.mem_append_right _ h)) (by decide +kernel))
set_option maxRecDepth 20000 in
theorem gX4_tableOf_X4_checkIndex : GoodIn wsX4_tableOf (va_wsS RX4 59 yX4_checkIndex wsX4_checkIndex) := goodIn_app (goodIn_of _ (by decide +kernel)) ggX4_tableOf_X4_checkIndex
set_option maxRecDepth 20000 in
theorem ggX4_tableOf_X0_firstTable : GoodIn wsX4_tableOf wsX0_firstTable := goodIn_r _ [12, 13, 14, 15, 16, 17, 18, 19, 20, 24, 25, 26, 27, 28, 29, 30, 31, 32, 33] (by decide +kernel) (by decide +kernel)
set_option maxRecDepth 20000 in
theorem gX4_tableOf_X0_firstTable : GoodIn wsX4_tableOf (wsV RX4 93 RX0 yX0_firstTable wsX0_firstTable) := goodIn_app (goodIn_of _ (by decide +kernel)) ggX4_tableOf_X0_firstTable
theorem dX4_tableOf_0 : decode cX4_tableOf 0 = .ok (.iload_n 1, 1) := by decide +kernel
theorem dX4_tableOf_1 : decode cX4_tableOf 1 = .ok (.aload_n 0, 1) := by decide +kernel
theorem dX4_tableOf_2 : decode cX4_tableOf 2 = .ok (.getfield 10, 3) := by decide +kernel
theorem dX4_tableOf_5 : decode cX4_tableOf 5 = .ok (.getfield 76, 3) := by decide +kernel
theorem dX4_tableOf_8 : decode cX4_tableOf 8 = .ok (.invokestatic 59, 3) := by decide +kernel
theorem dX4_tableOf_11 : decode cX4_tableOf 11 = .ok (.aload_n 0, 1) := by decide +kernel
theorem dX4_tableOf_12 : decode cX4_tableOf 12 = .ok (.getfield 10, 3) := by decide +kernel
theorem dX4_tableOf_15 : decode cX4_tableOf 15 = .ok (.iload_n 1, 1) := by decide +kernel
theorem dX4_tableOf_16 : decode cX4_tableOf 16 = .ok (.invokevirtual 93, 3) := by decide +kernel
theorem dX4_tableOf_19 : decode cX4_tableOf 19 = .ok (.ireturn, 1) := by decide +kernel
set_option maxRecDepth 20000 in
theorem ggX4_tablesOf_X4_checkIndex : GoodIn wsX4_tablesOf wsX4_checkIndex := goodIn_ca (goodIn_r _ [5, 6, 7] (by decide +kernel) (by decide +kernel)) (goodIn_sub (fun _ h => List.mem_cons_of_mem _ (List.mem_append_right _ h)) (by decide +kernel))
set_option maxRecDepth 20000 in
theorem gX4_tablesOf_X4_checkIndex : GoodIn wsX4_tablesOf (va_wsS RX4 59 yX4_checkIndex wsX4_checkIndex) := goodIn_app (goodIn_of _ (by decide +kernel)) ggX4_tablesOf_X4_checkIndex
set_option maxRecDepth 20000 in
theorem ggX4_tablesOf_X0_countTables : GoodIn wsX4_tablesOf wsX0_countTables := goodIn_r _ [12, 13, 14, 15, 16, 17, 18, 19, 20, 24, 25, 26, 27, 28, 29, 30, 31, 32, 33] (by decide +kernel) (by decide +kernel)
set_option maxRecDepth 20000 in
theorem gX4_tablesOf_X0_countTables : GoodIn wsX4_tablesOf (wsV RX4 96 RX0 yX0_countTables wsX0_countTables) := goodIn_app (goodIn_of _ (by decide +kernel)) ggX4_tablesOf_X0_countTables
theorem dX4_tablesOf_0 : decode cX4_tablesOf 0 = .ok (.iload_n 1, 1) := by decide +kernel
theorem dX4_tablesOf_1 : decode cX4_tablesOf 1 = .ok (.aload_n 0, 1) := by decide +kernel
theorem dX4_tablesOf_2 : decode cX4_tablesOf 2 = .ok (.getfield 10, 3) := by decide +kernel
theorem dX4_tablesOf_5 : decode cX4_tablesOf 5 = .ok (.getfield 76, 3) := by decide +kernel
theorem dX4_tablesOf_8 : decode cX4_tablesOf 8 = .ok (.invokestatic 59, 3) := by decide +kernel
theorem dX4_tablesOf_11 : decode cX4_tablesOf 11 = .ok (.aload_n 0, 1) := by decide +kernel
theorem dX4_tablesOf_12 : decode cX4_tablesOf 12 = .ok (.getfield 10, 3) := by decide +kernel
theorem dX4_tablesOf_15 : decode cX4_tablesOf 15 = .ok (.iload_n 1, 1) := by decide +kernel
theorem dX4_tablesOf_16 : decode cX4_tablesOf 16 = .ok (.invokevirtual 96, 3) := by decide +kernel
theorem dX4_tablesOf_19 : decode cX4_tablesOf 19 = .ok (.ireturn, 1) := by decide +kernel
set_option maxRecDepth 20000 in
theorem ggX4_waiting_X0_countWaiting : GoodIn wsX4_waiting wsX0_countWaiting := goodIn_r _ [6, 7, 8, 9, 10, 11, 12, 13, 14, 18, 19, 20, 21, 22, 23, 24, 25, 26, 27] (by decide +kernel) (by decide +kernel)
set_option maxRecDepth 20000 in
theorem gX4_waiting_X0_countWaiting : GoodIn wsX4_waiting (wsV RX4 99 RX0 yX0_countWaiting wsX0_countWaiting) := goodIn_app (goodIn_of _ (by decide +kernel)) ggX4_waiting_X0_countWaiting
theorem dX4_waiting_0 : decode cX4_waiting 0 = .ok (.aload_n 0, 1) := by decide +kernel
theorem dX4_waiting_1 : decode cX4_waiting 1 = .ok (.getfield 10, 3) := by decide +kernel
theorem dX4_waiting_4 : decode cX4_waiting 4 = .ok (.invokevirtual 99, 3) := by decide +kernel
theorem dX4_waiting_7 : decode cX4_waiting 7 = .ok (.ireturn, 1) := by decide +kernel
set_option maxRecDepth 20000 in
theorem ggX4_waste_X4_checkRange : GoodIn wsX4_waste wsX4_checkRange := goodIn_ca (goodIn_r _ [5, 6, 7] (by decide +kernel) (by decide +kernel)) (goodIn_sub (fun _ h => List.mem_cons_of_mem _ (List.mem_append_right _ h)) (by decide +kernel))
set_option maxRecDepth 20000 in
theorem gX4_waste_X4_checkRange : GoodIn wsX4_waste (va_wsS RX4 30 yX4_checkRange wsX4_checkRange) := goodIn_app (goodIn_of _ (by decide +kernel)) ggX4_waste_X4_checkRange
set_option maxRecDepth 20000 in
theorem ggX4_waste_X0_leastWaste : GoodIn wsX4_waste wsX0_leastWaste := goodIn_r _ [12, 13, 14, 15, 16, 11, 17, 18, 19, 20, 21, 22, 23, 24, 25, 26, 27, 28, 29, 30, 31, 32, 33, 34, 35, 39, 40, 41, 42, 43, 44, 45, 46, 47, 48] (by decide +kernel) (by decide +kernel)
set_option maxRecDepth 20000 in
theorem gX4_waste_X0_leastWaste : GoodIn wsX4_waste (wsV RX4 103 RX0 yX0_leastWaste wsX0_leastWaste) := goodIn_app (goodIn_of _ (by decide +kernel)) ggX4_waste_X0_leastWaste
theorem dX4_waste_0 : decode cX4_waste 0 = .ok (.iload_n 1, 1) := by decide +kernel
theorem dX4_waste_1 : decode cX4_waste 1 = .ok (.iconst 1, 1) := by decide +kernel
theorem dX4_waste_2 : decode cX4_waste 2 = .ok (.bipush 12, 2) := by decide +kernel
theorem dX4_waste_4 : decode cX4_waste 4 = .ok (.invokestatic 30, 3) := by decide +kernel
theorem dX4_waste_7 : decode cX4_waste 7 = .ok (.aload_n 0, 1) := by decide +kernel
theorem dX4_waste_8 : decode cX4_waste 8 = .ok (.getfield 10, 3) := by decide +kernel
theorem dX4_waste_11 : decode cX4_waste 11 = .ok (.iload_n 1, 1) := by decide +kernel
theorem dX4_waste_12 : decode cX4_waste 12 = .ok (.invokevirtual 103, 3) := by decide +kernel
theorem dX4_waste_15 : decode cX4_waste 15 = .ok (.ireturn, 1) := by decide +kernel
set_option maxRecDepth 20000 in
theorem ggX4_wasteByAll_X4_checkRange : GoodIn wsX4_wasteByAll wsX4_checkRange := goodIn_ca (goodIn_r _ [5, 6, 7] (by decide +kernel) (by decide +kernel)) (goodIn_sub (fun _ h => List.mem_cons_of_mem _ (List.mem_append_right _ h)) (by decide +kernel))
set_option maxRecDepth 20000 in
theorem gX4_wasteByAll_X4_checkRange : GoodIn wsX4_wasteByAll (va_wsS RX4 30 yX4_checkRange wsX4_checkRange) := goodIn_app (goodIn_of _ (by decide +kernel)) ggX4_wasteByAll_X4_checkRange
set_option maxRecDepth 20000 in
theorem ggX4_wasteByAll_X0_leastWasteOfSets : GoodIn wsX4_wasteByAll wsX0_leastWasteOfSets := goodIn_r _ [12, 13, 14, 15, 16, 11, 17, 18, 19, 20, 4, 21, 22, 23, 24, 25, 26, 27, 28, 29, 30, 31, 32, 33, 34, 35, 36, 37, 41, 42, 43, 44, 45, 46, 47, 48, 49, 50] (by decide +kernel) (by decide +kernel)
set_option maxRecDepth 20000 in
theorem gX4_wasteByAll_X0_leastWasteOfSets : GoodIn wsX4_wasteByAll (wsV RX4 106 RX0 yX0_leastWasteOfSets wsX0_leastWasteOfSets) := goodIn_app (goodIn_of _ (by decide +kernel)) ggX4_wasteByAll_X0_leastWasteOfSets
theorem dX4_wasteByAll_0 : decode cX4_wasteByAll 0 = .ok (.iload_n 1, 1) := by decide +kernel
theorem dX4_wasteByAll_1 : decode cX4_wasteByAll 1 = .ok (.iconst 1, 1) := by decide +kernel
theorem dX4_wasteByAll_2 : decode cX4_wasteByAll 2 = .ok (.bipush 12, 2) := by decide +kernel
theorem dX4_wasteByAll_4 : decode cX4_wasteByAll 4 = .ok (.invokestatic 30, 3) := by decide +kernel
theorem dX4_wasteByAll_7 : decode cX4_wasteByAll 7 = .ok (.aload_n 0, 1) := by decide +kernel
theorem dX4_wasteByAll_8 : decode cX4_wasteByAll 8 = .ok (.getfield 10, 3) := by decide +kernel
theorem dX4_wasteByAll_11 : decode cX4_wasteByAll 11 = .ok (.iload_n 1, 1) := by decide +kernel
theorem dX4_wasteByAll_12 : decode cX4_wasteByAll 12 = .ok (.invokevirtual 106, 3) := by decide +kernel
theorem dX4_wasteByAll_15 : decode cX4_wasteByAll 15 = .ok (.ireturn, 1) := by decide +kernel
set_option maxRecDepth 20000 in
theorem ggX4_left_X4_checkIndex : GoodIn wsX4_left wsX4_checkIndex := goodIn_ca (goodIn_r _ [5, 6, 7] (by decide +kernel) (by decide +kernel)) (goodIn_sub (fun _ h => List.mem_cons_of_mem _ (List.mem_append_left _ (List.mem_append_right _ h))) (by decide +kernel))
set_option maxRecDepth 20000 in
theorem gX4_left_X4_checkIndex : GoodIn wsX4_left (va_wsS RX4 59 yX4_checkIndex wsX4_checkIndex) := goodIn_app (goodIn_of _ (by decide +kernel)) ggX4_left_X4_checkIndex
set_option maxRecDepth 20000 in
theorem ggX4_left_X0_isSeated : GoodIn wsX4_left wsX0_isSeated := goodIn_r _ [12, 13, 14, 15, 16, 17, 18, 19, 38, 39, 40, 41, 42, 43, 44, 45, 46, 47] (by decide +kernel) (by decide +kernel)
set_option maxRecDepth 20000 in
theorem gX4_left_X0_isSeated : GoodIn wsX4_left (wsV RX4 109 RX0 yX0_isSeated wsX0_isSeated) := goodIn_app (goodIn_of _ (by decide +kernel)) ggX4_left_X0_isSeated
set_option maxRecDepth 20000 in
theorem ggX4_left_X4_checkState : GoodIn wsX4_left wsX4_checkState := goodIn_ca (goodIn_r _ [22, 23, 24] (by decide +kernel) (by decide +kernel)) (goodIn_sub (fun _ h => List.mem_cons_of_mem _ (List.mem_append_right _ h)) (by decide +kernel))
set_option maxRecDepth 20000 in
theorem gX4_left_X4_checkState : GoodIn wsX4_left (va_wsS RX4 38 yX4_checkState wsX4_checkState) := goodIn_app (goodIn_of _ (by decide +kernel)) ggX4_left_X4_checkState
set_option maxRecDepth 20000 in
theorem ggX4_left_X0_minutesLeft : GoodIn wsX4_left wsX0_minutesLeft := goodIn_r _ [28, 29, 30, 31, 32, 33, 34, 14, 15, 16, 17, 18, 19, 38, 39, 40, 41, 42, 43, 44, 45, 46, 47] (by decide +kernel) (by decide +kernel)
set_option maxRecDepth 20000 in
theorem gX4_left_X0_minutesLeft : GoodIn wsX4_left (wsV RX4 112 RX0 yX0_minutesLeft wsX0_minutesLeft) := goodIn_app (goodIn_of _ (by decide +kernel)) ggX4_left_X0_minutesLeft
theorem dX4_left_0 : decode cX4_left 0 = .ok (.iload_n 1, 1) := by decide +kernel
theorem dX4_left_1 : decode cX4_left 1 = .ok (.aload_n 0, 1) := by decide +kernel
theorem dX4_left_2 : decode cX4_left 2 = .ok (.getfield 10, 3) := by decide +kernel
theorem dX4_left_5 : decode cX4_left 5 = .ok (.getfield 76, 3) := by decide +kernel
theorem dX4_left_8 : decode cX4_left 8 = .ok (.invokestatic 59, 3) := by decide +kernel
theorem dX4_left_11 : decode cX4_left 11 = .ok (.aload_n 0, 1) := by decide +kernel
theorem dX4_left_12 : decode cX4_left 12 = .ok (.getfield 10, 3) := by decide +kernel
theorem dX4_left_15 : decode cX4_left 15 = .ok (.iload_n 1, 1) := by decide +kernel
theorem dX4_left_16 : decode cX4_left 16 = .ok (.invokevirtual 109, 3) := by decide +kernel
theorem dX4_left_19 : decode cX4_left 19 = .ok (.invokestatic 38, 3) := by decide +kernel
theorem dX4_left_22 : decode cX4_left 22 = .ok (.aload_n 0, 1) := by decide +kernel
theorem dX4_left_23 : decode cX4_left 23 = .ok (.getfield 10, 3) := by decide +kernel
theorem dX4_left_26 : decode cX4_left 26 = .ok (.iload_n 1, 1) := by decide +kernel
theorem dX4_left_27 : decode cX4_left 27 = .ok (.invokevirtual 112, 3) := by decide +kernel
theorem dX4_left_30 : decode cX4_left 30 = .ok (.ireturn, 1) := by decide +kernel
set_option maxRecDepth 20000 in
theorem ggX4_offers_X4_checkIndex : GoodIn wsX4_offers wsX4_checkIndex := goodIn_ca (goodIn_r _ [5, 6, 7] (by decide +kernel) (by decide +kernel)) (goodIn_sub (fun _ h => List.mem_cons_of_mem _ (List.mem_append_right _ h)) (by decide +kernel))
set_option maxRecDepth 20000 in
theorem gX4_offers_X4_checkIndex : GoodIn wsX4_offers (va_wsS RX4 59 yX4_checkIndex wsX4_checkIndex) := goodIn_app (goodIn_of _ (by decide +kernel)) ggX4_offers_X4_checkIndex
set_option maxRecDepth 20000 in
theorem ggX4_offers_X4_offeredTitles : GoodIn wsX4_offers wsX4_offeredTitles := goodIn_r _ [11, 12, 13, 14, 15, 4, 16, 1, 17, 18, 19, 20, 21, 22, 23, 24, 25, 26, 27, 28, 29, 30, 31, 32, 33, 34, 35, 36, 37, 38, 39, 40, 41, 42, 43, 44, 45, 46, 47, 48, 49, 50, 51, 52, 53, 54, 55, 56, 57, 58, 59, 60, 61, 62, 63, 64, 65, 66, 67, 68, 69, 70, 71, 72, 73, 74, 75, 76, 77, 78, 79, 80, 81, 82, 83, 84, 85, 86, 87, 88, 89, 90, 91, 92, 94, 95, 96, 106, 107, 108, 109, 110, 111, 112, 113, 114, 115, 116, 97, 98, 99, 100, 101, 102, 103, 104, 105, 117] (by decide +kernel) (by decide +kernel)
set_option maxRecDepth 20000 in
theorem gX4_offers_X4_offeredTitles : GoodIn wsX4_offers (wsV RX4 115 RX4 yX4_offeredTitles wsX4_offeredTitles) := goodIn_app (goodIn_of _ (by decide +kernel)) ggX4_offers_X4_offeredTitles
set_option maxRecDepth 20000 in
theorem ggX4_offers_J6_bitCount_0f7a4 : GoodIn wsX4_offers wsJ6_bitCount_0f7a4 := goodIn_r _ [89, 90, 91, 92] (by decide +kernel) (by decide +kernel)
set_option maxRecDepth 20000 in
theorem gX4_offers_J6_bitCount_0f7a4 : GoodIn wsX4_offers (va_wsS RX4 118 yJ6_bitCount_0f7a4 wsJ6_bitCount_0f7a4) := goodIn_app (goodIn_of _ (by decide +kernel)) ggX4_offers_J6_bitCount_0f7a4
theorem dX4_offers_0 : decode cX4_offers 0 = .ok (.iload_n 1, 1) := by decide +kernel
theorem dX4_offers_1 : decode cX4_offers 1 = .ok (.aload_n 0, 1) := by decide +kernel
theorem dX4_offers_2 : decode cX4_offers 2 = .ok (.getfield 10, 3) := by decide +kernel
theorem dX4_offers_5 : decode cX4_offers 5 = .ok (.getfield 76, 3) := by decide +kernel
theorem dX4_offers_8 : decode cX4_offers 8 = .ok (.invokestatic 59, 3) := by decide +kernel
theorem dX4_offers_11 : decode cX4_offers 11 = .ok (.aload_n 0, 1) := by decide +kernel
theorem dX4_offers_12 : decode cX4_offers 12 = .ok (.iload_n 1, 1) := by decide +kernel
theorem dX4_offers_13 : decode cX4_offers 13 = .ok (.invokevirtual 115, 3) := by decide +kernel
theorem dX4_offers_16 : decode cX4_offers 16 = .ok (.invokestatic 118, 3) := by decide +kernel
theorem dX4_offers_19 : decode cX4_offers 19 = .ok (.ireturn, 1) := by decide +kernel
set_option maxRecDepth 20000 in
theorem ggX4_offerAt_X4_checkIndex : GoodIn wsX4_offerAt wsX4_checkIndex := goodIn_ca (goodIn_r _ [6, 7, 8] (by decide +kernel) (by decide +kernel)) (goodIn_sub (fun _ h => List.mem_cons_of_mem _ (List.mem_append_right _ h)) (by decide +kernel))
set_option maxRecDepth 20000 in
theorem gX4_offerAt_X4_checkIndex : GoodIn wsX4_offerAt (va_wsS RX4 59 yX4_checkIndex wsX4_checkIndex) := goodIn_app (goodIn_of _ (by decide +kernel)) ggX4_offerAt_X4_checkIndex
set_option maxRecDepth 20000 in
theorem ggX4_offerAt_X4_offeredTitles : GoodIn wsX4_offerAt wsX4_offeredTitles := goodIn_r _ [12, 2, 13, 14, 15, 5, 16, 1, 17, 18, 19, 20, 21, 22, 23, 24, 25, 26, 27, 28, 29, 30, 31, 32, 33, 34, 35, 36, 37, 38, 39, 40, 41, 42, 43, 44, 45, 46, 47, 48, 49, 50, 51, 52, 53, 54, 55, 56, 57, 58, 59, 60, 61, 62, 63, 64, 65, 66, 67, 68, 69, 70, 71, 72, 73, 74, 75, 76, 77, 78, 79, 80, 81, 82, 83, 84, 85, 86, 87, 88, 89, 90, 91, 92, 105, 106, 107, 117, 118, 119, 120, 121, 122, 123, 124, 125, 126, 127, 108, 109, 110, 111, 112, 113, 114, 115, 116, 128] (by decide +kernel) (by decide +kernel)
set_option maxRecDepth 20000 in
theorem gX4_offerAt_X4_offeredTitles : GoodIn wsX4_offerAt (wsV RX4 115 RX4 yX4_offeredTitles wsX4_offeredTitles) := goodIn_app (goodIn_of _ (by decide +kernel)) ggX4_offerAt_X4_offeredTitles
set_option maxRecDepth 20000 in
theorem ggX4_offerAt_J6_bitCount_0f7a4 : GoodIn wsX4_offerAt wsJ6_bitCount_0f7a4 := goodIn_r _ [89, 90, 91, 92] (by decide +kernel) (by decide +kernel)
set_option maxRecDepth 20000 in
theorem gX4_offerAt_J6_bitCount_0f7a4 : GoodIn wsX4_offerAt (va_wsS RX4 118 yJ6_bitCount_0f7a4 wsJ6_bitCount_0f7a4) := goodIn_app (goodIn_of _ (by decide +kernel)) ggX4_offerAt_J6_bitCount_0f7a4
set_option maxRecDepth 20000 in
theorem ggX4_offerAt_X3_titleInPlace : GoodIn wsX4_offerAt wsX3_titleInPlace := goodIn_r _ [97, 98, 99, 5, 100, 101, 102, 103, 32, 104, 54, 36, 24, 25, 26, 27, 28, 117, 118, 119, 120, 121, 122, 123, 124, 125, 126, 127, 128] (by decide +kernel) (by decide +kernel)
set_option maxRecDepth 20000 in
theorem gX4_offerAt_X3_titleInPlace : GoodIn wsX4_offerAt (wsV RX4 123 RX3 yX3_titleInPlace wsX3_titleInPlace) := goodIn_app (goodIn_of _ (by decide +kernel)) ggX4_offerAt_X3_titleInPlace
theorem dX4_offerAt_0 : decode cX4_offerAt 0 = .ok (.iload_n 1, 1) := by decide +kernel
theorem dX4_offerAt_1 : decode cX4_offerAt 1 = .ok (.aload_n 0, 1) := by decide +kernel
theorem dX4_offerAt_2 : decode cX4_offerAt 2 = .ok (.getfield 10, 3) := by decide +kernel
theorem dX4_offerAt_5 : decode cX4_offerAt 5 = .ok (.getfield 76, 3) := by decide +kernel
theorem dX4_offerAt_8 : decode cX4_offerAt 8 = .ok (.invokestatic 59, 3) := by decide +kernel
theorem dX4_offerAt_11 : decode cX4_offerAt 11 = .ok (.aload_n 0, 1) := by decide +kernel
theorem dX4_offerAt_12 : decode cX4_offerAt 12 = .ok (.iload_n 1, 1) := by decide +kernel
theorem dX4_offerAt_13 : decode cX4_offerAt 13 = .ok (.invokevirtual 115, 3) := by decide +kernel
theorem dX4_offerAt_16 : decode cX4_offerAt 16 = .ok (.istore_n 3, 1) := by decide +kernel
theorem dX4_offerAt_17 : decode cX4_offerAt 17 = .ok (.iload_n 2, 1) := by decide +kernel
theorem dX4_offerAt_18 : decode cX4_offerAt 18 = .ok (.iload_n 3, 1) := by decide +kernel
theorem dX4_offerAt_19 : decode cX4_offerAt 19 = .ok (.invokestatic 118, 3) := by decide +kernel
theorem dX4_offerAt_22 : decode cX4_offerAt 22 = .ok (.invokestatic 59, 3) := by decide +kernel
theorem dX4_offerAt_25 : decode cX4_offerAt 25 = .ok (.aload_n 0, 1) := by decide +kernel
theorem dX4_offerAt_26 : decode cX4_offerAt 26 = .ok (.getfield 19, 3) := by decide +kernel
theorem dX4_offerAt_29 : decode cX4_offerAt 29 = .ok (.iload_n 3, 1) := by decide +kernel
theorem dX4_offerAt_30 : decode cX4_offerAt 30 = .ok (.iload_n 2, 1) := by decide +kernel
theorem dX4_offerAt_31 : decode cX4_offerAt 31 = .ok (.invokevirtual 123, 3) := by decide +kernel
theorem dX4_offerAt_34 : decode cX4_offerAt 34 = .ok (.ireturn, 1) := by decide +kernel
set_option maxRecDepth 20000 in
theorem ggX4_serve_X4_checkIndex : GoodIn wsX4_serve wsX4_checkIndex := goodIn_ca (goodIn_r _ [6, 7, 8] (by decide +kernel) (by decide +kernel)) (goodIn_sub (fun _ h => List.mem_cons_of_mem _ (List.mem_append_left _ (List.mem_append_right _ h))) (by decide +kernel))
set_option maxRecDepth 20000 in
theorem gX4_serve_X4_checkIndex : GoodIn wsX4_serve (va_wsS RX4 59 yX4_checkIndex wsX4_checkIndex) := goodIn_app (goodIn_of _ (by decide +kernel)) ggX4_serve_X4_checkIndex
set_option maxRecDepth 20000 in
theorem ggX4_serve_X4_isOffered : GoodIn wsX4_serve wsX4_isOffered := goodIn_r _ [12, 1, 2, 13, 14, 15, 16, 17, 18, 19, 20, 21, 22, 23, 24, 25, 26, 27, 28, 29, 30, 31, 32, 33, 34, 35, 36, 37, 38, 39, 40, 41, 42, 43, 44, 45, 46, 47, 48, 49, 50, 51, 52, 53, 54, 55, 56, 57, 58, 59, 60, 61, 62, 63, 64, 65, 66, 67, 68, 69, 70, 71, 72, 73, 74, 75, 76, 77, 78, 79, 80, 81, 82, 83, 84, 85, 86, 87, 88, 111, 112, 113, 114, 115, 116, 117, 118, 119, 120, 121, 122, 134, 123, 124, 125, 126, 127, 128, 129, 130, 131, 132, 133] (by decide +kernel) (by decide +kernel)
set_option maxRecDepth 20000 in
theorem gX4_serve_X4_isOffered : GoodIn wsX4_serve (wsV RX4 126 RX4 yX4_isOffered wsX4_isOffered) := goodIn_app (goodIn_of _ (by decide +kernel)) ggX4_serve_X4_isOffered
set_option maxRecDepth 20000 in
theorem ggX4_serve_X4_checkState : GoodIn wsX4_serve wsX4_checkState := goodIn_ca (goodIn_r _ [91, 92, 93] (by decide +kernel) (by decide +kernel)) (goodIn_sub (fun _ h => List.mem_cons_of_mem _ (List.mem_append_right _ h)) (by decide +kernel))
set_option maxRecDepth 20000 in
theorem gX4_serve_X4_checkState : GoodIn wsX4_serve (va_wsS RX4 38 yX4_checkState wsX4_checkState) := goodIn_app (goodIn_of _ (by decide +kernel)) ggX4_serve_X4_checkState
set_option maxRecDepth 20000 in
theorem ggX4_serve_X3_bestCopy : GoodIn wsX4_serve wsX3_bestCopy := goodIn_r _ [54, 30, 55, 32, 20, 21, 22, 23, 24, 56, 57, 58, 28, 59, 60, 61, 42, 62, 63, 64, 65, 66, 31, 67, 68, 69, 70, 71, 72, 73, 74, 75, 76, 77, 78, 79, 80, 81, 82, 83, 84, 85, 86, 87, 88, 123, 124, 125, 126, 127, 128, 129, 130, 131, 132, 133, 134] (by decide +kernel) (by decide +kernel)
set_option maxRecDepth 20000 in
theorem gX4_serve_X3_bestCopy : GoodIn wsX4_serve (wsV RX4 130 RX3 yX3_bestCopy wsX3_bestCopy) := goodIn_app (goodIn_of _ (by decide +kernel)) ggX4_serve_X3_bestCopy
set_option maxRecDepth 20000 in
theorem ggX4_serve_X3_handOut : GoodIn wsX4_serve wsX3_handOut := goodIn_r _ [97, 30, 60, 61, 42, 62, 31, 68, 69, 70, 28, 71, 72, 55, 73, 32, 20, 21, 22, 23, 24, 78, 79, 80, 81, 74, 75, 76, 77, 67, 98, 99, 100, 101, 102, 103, 104, 105, 106, 107, 108, 109, 110, 123, 124, 125, 126, 127, 128, 129, 130, 131, 132, 133, 134] (by decide +kernel) (by decide +kernel)
set_option maxRecDepth 20000 in
theorem gX4_serve_X3_handOut : GoodIn wsX4_serve (wsV RX4 133 RX3 yX3_handOut wsX3_handOut) := goodIn_app (goodIn_of _ (by decide +kernel)) ggX4_serve_X3_handOut
theorem dX4_serve_0 : decode cX4_serve 0 = .ok (.iload_n 1, 1) := by decide +kernel
theorem dX4_serve_1 : decode cX4_serve 1 = .ok (.aload_n 0, 1) := by decide +kernel
theorem dX4_serve_2 : decode cX4_serve 2 = .ok (.getfield 10, 3) := by decide +kernel
theorem dX4_serve_5 : decode cX4_serve 5 = .ok (.getfield 76, 3) := by decide +kernel
theorem dX4_serve_8 : decode cX4_serve 8 = .ok (.invokestatic 59, 3) := by decide +kernel
theorem dX4_serve_11 : decode cX4_serve 11 = .ok (.iload_n 2, 1) := by decide +kernel
theorem dX4_serve_12 : decode cX4_serve 12 = .ok (.aload_n 0, 1) := by decide +kernel
theorem dX4_serve_13 : decode cX4_serve 13 = .ok (.getfield 19, 3) := by decide +kernel
theorem dX4_serve_16 : decode cX4_serve 16 = .ok (.getfield 49, 3) := by decide +kernel
theorem dX4_serve_19 : decode cX4_serve 19 = .ok (.invokestatic 59, 3) := by decide +kernel
theorem dX4_serve_22 : decode cX4_serve 22 = .ok (.aload_n 0, 1) := by decide +kernel
theorem dX4_serve_23 : decode cX4_serve 23 = .ok (.iload_n 1, 1) := by decide +kernel
theorem dX4_serve_24 : decode cX4_serve 24 = .ok (.iload_n 2, 1) := by decide +kernel
theorem dX4_serve_25 : decode cX4_serve 25 = .ok (.invokevirtual 126, 3) := by decide +kernel
theorem dX4_serve_28 : decode cX4_serve 28 = .ok (.invokestatic 38, 3) := by decide +kernel
theorem dX4_serve_31 : decode cX4_serve 31 = .ok (.aload_n 0, 1) := by decide +kernel
theorem dX4_serve_32 : decode cX4_serve 32 = .ok (.getfield 19, 3) := by decide +kernel
theorem dX4_serve_35 : decode cX4_serve 35 = .ok (.iload_n 2, 1) := by decide +kernel
theorem dX4_serve_36 : decode cX4_serve 36 = .ok (.invokevirtual 130, 3) := by decide +kernel
theorem dX4_serve_39 : decode cX4_serve 39 = .ok (.istore_n 3, 1) := by decide +kernel
theorem dX4_serve_40 : decode cX4_serve 40 = .ok (.aload_n 0, 1) := by decide +kernel
theorem dX4_serve_41 : decode cX4_serve 41 = .ok (.getfield 19, 3) := by decide +kernel
theorem dX4_serve_44 : decode cX4_serve 44 = .ok (.iload_n 3, 1) := by decide +kernel
theorem dX4_serve_45 : decode cX4_serve 45 = .ok (.iload_n 1, 1) := by decide +kernel
theorem dX4_serve_46 : decode cX4_serve 46 = .ok (.invokevirtual 133, 3) := by decide +kernel
theorem dX4_serve_49 : decode cX4_serve 49 = .ok (.iload_n 3, 1) := by decide +kernel
theorem dX4_serve_50 : decode cX4_serve 50 = .ok (.ireturn, 1) := by decide +kernel
set_option maxRecDepth 20000 in
theorem ggX4_giveBack_X4_checkIndex : GoodIn wsX4_giveBack wsX4_checkIndex := goodIn_ca (goodIn_r _ [6, 7, 8] (by decide +kernel) (by decide +kernel)) (goodIn_sub (fun _ h => List.mem_cons_of_mem _ (List.mem_append_left _ (List.mem_append_left _ (List.mem_append_right _ h)))) (by decide +kernel))
set_option maxRecDepth 20000 in
theorem gX4_giveBack_X4_checkIndex : GoodIn wsX4_giveBack (va_wsS RX4 59 yX4_checkIndex wsX4_checkIndex) := goodIn_app (goodIn_of _ (by decide +kernel)) ggX4_giveBack_X4_checkIndex
set_option maxRecDepth 20000 in
theorem ggX4_giveBack_X4_checkRange : GoodIn wsX4_giveBack wsX4_checkRange := goodIn_ca (goodIn_r _ [11, 12, 13] (by decide +kernel) (by decide +kernel)) (goodIn_sub (fun _ h => List.mem_cons_of_mem _ (List.mem_append_left _ (List.mem_append_right _ h))) (by decide +kernel))
set_option maxRecDepth 20000 in
theorem gX4_giveBack_X4_checkRange : GoodIn wsX4_giveBack (va_wsS RX4 30 yX4_checkRange wsX4_checkRange) := goodIn_app (goodIn_of _ (by decide +kernel)) ggX4_giveBack_X4_checkRange
set_option maxRecDepth 20000 in
theorem ggX4_giveBack_X3_heldBy : GoodIn wsX4_giveBack wsX3_heldBy := goodIn_r _ [18, 19, 20, 21, 22, 23, 24, 25, 26, 72, 73, 74, 75, 76, 77, 78, 79, 80, 81, 82, 83] (by decide +kernel) (by decide +kernel)
set_option maxRecDepth 20000 in
theorem gX4_giveBack_X3_heldBy : GoodIn wsX4_giveBack (wsV RX4 83 RX3 yX3_heldBy wsX3_heldBy) := goodIn_app (goodIn_of _ (by decide +kernel)) ggX4_giveBack_X3_heldBy
set_option maxRecDepth 20000 in
theorem ggX4_giveBack_X3_count : GoodIn wsX4_giveBack wsX3_count := goodIn_r _ [30, 31, 21, 22, 23, 24, 25, 26, 72, 73, 74, 75, 76, 77, 78, 79, 80, 81, 82, 83] (by decide +kernel) (by decide +kernel)
set_option maxRecDepth 20000 in
theorem gX4_giveBack_X3_count : GoodIn wsX4_giveBack (wsV RX4 136 RX3 yX3_count wsX3_count) := goodIn_app (goodIn_of _ (by decide +kernel)) ggX4_giveBack_X3_count
set_option maxRecDepth 20000 in
theorem ggX4_giveBack_X4_checkState : GoodIn wsX4_giveBack wsX4_checkState := goodIn_ca (goodIn_r _ [34, 35, 36] (by decide +kernel) (by decide +kernel)) (goodIn_sub (fun _ h => List.mem_cons_of_mem _ (List.mem_append_right _ h)) (by decide +kernel))
set_option maxRecDepth 20000 in
theorem gX4_giveBack_X4_checkState : GoodIn wsX4_giveBack (va_wsS RX4 38 yX4_checkState wsX4_checkState) := goodIn_app (goodIn_of _ (by decide +kernel)) ggX4_giveBack_X4_checkState
set_option maxRecDepth 20000 in
theorem ggX4_giveBack_X3_takeBack : GoodIn wsX4_giveBack wsX3_takeBack := goodIn_r _ [40, 19, 41, 20, 42, 43, 44, 17, 45, 31, 46, 28, 29, 30, 21, 22, 23, 24, 25, 26, 47, 48, 49, 50, 51, 52, 53, 54, 55, 56, 57, 58, 59, 72, 73, 74, 75, 76, 77, 78, 79, 80, 81, 82, 83] (by decide +kernel) (by decide +kernel)
set_option maxRecDepth 20000 in
theorem gX4_giveBack_X3_takeBack : GoodIn wsX4_giveBack (wsV RX4 139 RX3 yX3_takeBack wsX3_takeBack) := goodIn_app (goodIn_of _ (by decide +kernel)) ggX4_giveBack_X3_takeBack
theorem dX4_giveBack_0 : decode cX4_giveBack 0 = .ok (.iload_n 1, 1) := by decide +kernel
theorem dX4_giveBack_1 : decode cX4_giveBack 1 = .ok (.aload_n 0, 1) := by decide +kernel
theorem dX4_giveBack_2 : decode cX4_giveBack 2 = .ok (.getfield 10, 3) := by decide +kernel
theorem dX4_giveBack_5 : decode cX4_giveBack 5 = .ok (.getfield 76, 3) := by decide +kernel
theorem dX4_giveBack_8 : decode cX4_giveBack 8 = .ok (.invokestatic 59, 3) := by decide +kernel
theorem dX4_giveBack_11 : decode cX4_giveBack 11 = .ok (.iload_n 2, 1) := by decide +kernel
theorem dX4_giveBack_12 : decode cX4_giveBack 12 = .ok (.iconst 4, 1) := by decide +kernel
theorem dX4_giveBack_13 : decode cX4_giveBack 13 = .ok (.invokestatic 59, 3) := by decide +kernel
theorem dX4_giveBack_16 : decode cX4_giveBack 16 = .ok (.iload_n 3, 1) := by decide +kernel
theorem dX4_giveBack_17 : decode cX4_giveBack 17 = .ok (.iconst 0, 1) := by decide +kernel
theorem dX4_giveBack_18 : decode cX4_giveBack 18 = .ok (.bipush 9, 2) := by decide +kernel
theorem dX4_giveBack_20 : decode cX4_giveBack 20 = .ok (.invokestatic 30, 3) := by decide +kernel
theorem dX4_giveBack_23 : decode cX4_giveBack 23 = .ok (.aload_n 0, 1) := by decide +kernel
theorem dX4_giveBack_24 : decode cX4_giveBack 24 = .ok (.getfield 19, 3) := by decide +kernel
theorem dX4_giveBack_27 : decode cX4_giveBack 27 = .ok (.iload_n 1, 1) := by decide +kernel
theorem dX4_giveBack_28 : decode cX4_giveBack 28 = .ok (.invokevirtual 83, 3) := by decide +kernel
theorem dX4_giveBack_31 : decode cX4_giveBack 31 = .ok (.istore 4, 2) := by decide +kernel
theorem dX4_giveBack_33 : decode cX4_giveBack 33 = .ok (.iload 4, 2) := by decide +kernel
theorem dX4_giveBack_35 : decode cX4_giveBack 35 = .ok (.iconst (-1), 1) := by decide +kernel
theorem dX4_giveBack_36 : decode cX4_giveBack 36 = .ok (.if_icmp .eq 21, 3) := by decide +kernel
theorem dX4_giveBack_39 : decode cX4_giveBack 39 = .ok (.aload_n 0, 1) := by decide +kernel
theorem dX4_giveBack_40 : decode cX4_giveBack 40 = .ok (.getfield 19, 3) := by decide +kernel
theorem dX4_giveBack_43 : decode cX4_giveBack 43 = .ok (.iload 4, 2) := by decide +kernel
theorem dX4_giveBack_45 : decode cX4_giveBack 45 = .ok (.iload_n 2, 1) := by decide +kernel
theorem dX4_giveBack_46 : decode cX4_giveBack 46 = .ok (.invokevirtual 136, 3) := by decide +kernel
theorem dX4_giveBack_49 : decode cX4_giveBack 49 = .ok (.iload_n 3, 1) := by decide +kernel
theorem dX4_giveBack_50 : decode cX4_giveBack 50 = .ok (.if_icmp .lt 7, 3) := by decide +kernel
theorem dX4_giveBack_53 : decode cX4_giveBack 53 = .ok (.iconst 1, 1) := by decide +kernel
theorem dX4_giveBack_54 : decode cX4_giveBack 54 = .ok (.goto 4, 3) := by decide +kernel
theorem dX4_giveBack_57 : decode cX4_giveBack 57 = .ok (.iconst 0, 1) := by decide +kernel
theorem dX4_giveBack_58 : decode cX4_giveBack 58 = .ok (.invokestatic 38, 3) := by decide +kernel
theorem dX4_giveBack_61 : decode cX4_giveBack 61 = .ok (.aload_n 0, 1) := by decide +kernel
theorem dX4_giveBack_62 : decode cX4_giveBack 62 = .ok (.getfield 19, 3) := by decide +kernel
theorem dX4_giveBack_65 : decode cX4_giveBack 65 = .ok (.iload 4, 2) := by decide +kernel
theorem dX4_giveBack_67 : decode cX4_giveBack 67 = .ok (.iload_n 2, 1) := by decide +kernel
theorem dX4_giveBack_68 : decode cX4_giveBack 68 = .ok (.iload_n 3, 1) := by decide +kernel
theorem dX4_giveBack_69 : decode cX4_giveBack 69 = .ok (.invokevirtual 139, 3) := by decide +kernel
theorem dX4_giveBack_72 : decode cX4_giveBack 72 = .ok (.ireturn, 1) := by decide +kernel
set_option maxRecDepth 20000 in
theorem ggX4_found_X4_checkIndex : GoodIn wsX4_found wsX4_checkIndex := goodIn_ca (goodIn_r _ [5, 6, 7] (by decide +kernel) (by decide +kernel)) (goodIn_sub (fun _ h => List.mem_cons_of_mem _ (List.mem_append_left _ (List.mem_append_left _ (List.mem_append_right _ h)))) (by decide +kernel))
set_option maxRecDepth 20000 in
theorem gX4_found_X4_checkIndex : GoodIn wsX4_found (va_wsS RX4 59 yX4_checkIndex wsX4_checkIndex) := goodIn_app (goodIn_of _ (by decide +kernel)) ggX4_found_X4_checkIndex
set_option maxRecDepth 20000 in
theorem ggX4_found_X4_checkRange : GoodIn wsX4_found wsX4_checkRange := goodIn_ca (goodIn_r _ [10, 11, 12] (by decide +kernel) (by decide +kernel)) (goodIn_sub (fun _ h => List.mem_cons_of_mem _ (List.mem_append_left _ (List.mem_append_right _ h))) (by decide +kernel))
set_option maxRecDepth 20000 in
theorem gX4_found_X4_checkRange : GoodIn wsX4_found (va_wsS RX4 30 yX4_checkRange wsX4_checkRange) := goodIn_app (goodIn_of _ (by decide +kernel)) ggX4_found_X4_checkRange
set_option maxRecDepth 20000 in
theorem ggX4_found_X3_place : GoodIn wsX4_found wsX3_place := goodIn_r _ [17, 18, 19, 20, 21, 22, 23, 24, 25, 54, 55, 56, 57, 58, 59, 60, 61, 62, 63, 64, 65] (by decide +kernel) (by decide +kernel)
set_option maxRecDepth 20000 in
theorem gX4_found_X3_place : GoodIn wsX4_found (wsV RX4 142 RX3 yX3_place wsX3_place) := goodIn_app (goodIn_of _ (by decide +kernel)) ggX4_found_X3_place
set_option maxRecDepth 20000 in
theorem ggX4_found_X3_lack : GoodIn wsX4_found wsX3_lack := goodIn_r _ [29, 30, 31, 32, 20, 21, 22, 23, 24, 25, 54, 55, 56, 57, 58, 59, 60, 61, 62, 63, 64, 65] (by decide +kernel) (by decide +kernel)
set_option maxRecDepth 20000 in
theorem gX4_found_X3_lack : GoodIn wsX4_found (wsV RX4 145 RX3 yX3_lack wsX3_lack) := goodIn_app (goodIn_of _ (by decide +kernel)) ggX4_found_X3_lack
set_option maxRecDepth 20000 in
theorem ggX4_found_X4_checkState : GoodIn wsX4_found wsX4_checkState := goodIn_ca (goodIn_r _ [35, 36, 37] (by decide +kernel) (by decide +kernel)) (goodIn_sub (fun _ h => List.mem_cons_of_mem _ (List.mem_append_right _ h)) (by decide +kernel))
set_option maxRecDepth 20000 in
theorem gX4_found_X4_checkState : GoodIn wsX4_found (va_wsS RX4 38 yX4_checkState wsX4_checkState) := goodIn_app (goodIn_of _ (by decide +kernel)) ggX4_found_X4_checkState
set_option maxRecDepth 20000 in
theorem ggX4_found_X3_change : GoodIn wsX4_found wsX3_change := goodIn_r _ [41, 32, 42, 43, 44, 16, 45, 20, 21, 22, 23, 24, 25, 46, 47, 48, 49, 54, 55, 56, 57, 58, 59, 60, 61, 62, 63, 64, 65] (by decide +kernel) (by decide +kernel)
set_option maxRecDepth 20000 in
theorem gX4_found_X3_change : GoodIn wsX4_found (wsV RX4 148 RX3 yX3_change wsX3_change) := goodIn_app (goodIn_of _ (by decide +kernel)) ggX4_found_X3_change
set_option maxRecDepth 20000 in
theorem ggX4_found_X3_count : GoodIn wsX4_found wsX3_count := goodIn_r _ [45, 32, 20, 21, 22, 23, 24, 25, 54, 55, 56, 57, 58, 59, 60, 61, 62, 63, 64, 65] (by decide +kernel) (by decide +kernel)
set_option maxRecDepth 20000 in
theorem gX4_found_X3_count : GoodIn wsX4_found (wsV RX4 136 RX3 yX3_count wsX3_count) := goodIn_app (goodIn_of _ (by decide +kernel)) ggX4_found_X3_count
theorem dX4_found_0 : decode cX4_found 0 = .ok (.iload_n 1, 1) := by decide +kernel
theorem dX4_found_1 : decode cX4_found 1 = .ok (.aload_n 0, 1) := by decide +kernel
theorem dX4_found_2 : decode cX4_found 2 = .ok (.getfield 19, 3) := by decide +kernel
theorem dX4_found_5 : decode cX4_found 5 = .ok (.getfield 63, 3) := by decide +kernel
theorem dX4_found_8 : decode cX4_found 8 = .ok (.invokestatic 59, 3) := by decide +kernel
theorem dX4_found_11 : decode cX4_found 11 = .ok (.iload_n 2, 1) := by decide +kernel
theorem dX4_found_12 : decode cX4_found 12 = .ok (.iconst 4, 1) := by decide +kernel
theorem dX4_found_13 : decode cX4_found 13 = .ok (.invokestatic 59, 3) := by decide +kernel
theorem dX4_found_16 : decode cX4_found 16 = .ok (.iload_n 3, 1) := by decide +kernel
theorem dX4_found_17 : decode cX4_found 17 = .ok (.iconst 1, 1) := by decide +kernel
theorem dX4_found_18 : decode cX4_found 18 = .ok (.bipush 9, 2) := by decide +kernel
theorem dX4_found_20 : decode cX4_found 20 = .ok (.invokestatic 30, 3) := by decide +kernel
theorem dX4_found_23 : decode cX4_found 23 = .ok (.aload_n 0, 1) := by decide +kernel
theorem dX4_found_24 : decode cX4_found 24 = .ok (.getfield 19, 3) := by decide +kernel
theorem dX4_found_27 : decode cX4_found 27 = .ok (.iload_n 1, 1) := by decide +kernel
theorem dX4_found_28 : decode cX4_found 28 = .ok (.invokevirtual 142, 3) := by decide +kernel
theorem dX4_found_31 : decode cX4_found 31 = .ok (.ifCond .ne 20, 3) := by decide +kernel
theorem dX4_found_34 : decode cX4_found 34 = .ok (.aload_n 0, 1) := by decide +kernel
theorem dX4_found_35 : decode cX4_found 35 = .ok (.getfield 19, 3) := by decide +kernel
theorem dX4_found_38 : decode cX4_found 38 = .ok (.iload_n 1, 1) := by decide +kernel
theorem dX4_found_39 : decode cX4_found 39 = .ok (.iload_n 2, 1) := by decide +kernel
theorem dX4_found_40 : decode cX4_found 40 = .ok (.invokevirtual 145, 3) := by decide +kernel
theorem dX4_found_43 : decode cX4_found 43 = .ok (.iload_n 3, 1) := by decide +kernel
theorem dX4_found_44 : decode cX4_found 44 = .ok (.if_icmp .lt 7, 3) := by decide +kernel
theorem dX4_found_47 : decode cX4_found 47 = .ok (.iconst 1, 1) := by decide +kernel
theorem dX4_found_48 : decode cX4_found 48 = .ok (.goto 4, 3) := by decide +kernel
theorem dX4_found_51 : decode cX4_found 51 = .ok (.iconst 0, 1) := by decide +kernel
theorem dX4_found_52 : decode cX4_found 52 = .ok (.invokestatic 38, 3) := by decide +kernel
theorem dX4_found_55 : decode cX4_found 55 = .ok (.aload_n 0, 1) := by decide +kernel
theorem dX4_found_56 : decode cX4_found 56 = .ok (.getfield 19, 3) := by decide +kernel
theorem dX4_found_59 : decode cX4_found 59 = .ok (.iload_n 1, 1) := by decide +kernel
theorem dX4_found_60 : decode cX4_found 60 = .ok (.iload_n 2, 1) := by decide +kernel
theorem dX4_found_61 : decode cX4_found 61 = .ok (.iload_n 3, 1) := by decide +kernel
theorem dX4_found_62 : decode cX4_found 62 = .ok (.invokevirtual 148, 3) := by decide +kernel
theorem dX4_found_65 : decode cX4_found 65 = .ok (.aload_n 0, 1) := by decide +kernel
theorem dX4_found_66 : decode cX4_found 66 = .ok (.getfield 19, 3) := by decide +kernel
theorem dX4_found_69 : decode cX4_found 69 = .ok (.iload_n 1, 1) := by decide +kernel
theorem dX4_found_70 : decode cX4_found 70 = .ok (.iload_n 2, 1) := by decide +kernel
theorem dX4_found_71 : decode cX4_found 71 = .ok (.invokevirtual 136, 3) := by decide +kernel
theorem dX4_found_74 : decode cX4_found 74 = .ok (.ireturn, 1) := by decide +kernel
set_option maxRecDepth 20000 in
theorem ggX4_pieces_X4_checkIndex : GoodIn wsX4_pieces wsX4_checkIndex := goodIn_ca (goodIn_r _ [5, 6, 7] (by decide +kernel) (by decide +kernel)) (goodIn_sub (fun _ h => List.mem_cons_of_mem _ (List.mem_append_right _ h)) (by decide +kernel))
set_option maxRecDepth 20000 in
theorem gX4_pieces_X4_checkIndex : GoodIn wsX4_pieces (va_wsS RX4 59 yX4_checkIndex wsX4_checkIndex) := goodIn_app (goodIn_of _ (by decide +kernel)) ggX4_pieces_X4_checkIndex
set_option maxRecDepth 20000 in
theorem ggX4_pieces_X3_count : GoodIn wsX4_pieces wsX3_count := goodIn_r _ [12, 13, 14, 15, 16, 17, 18, 19, 23, 24, 25, 26, 27, 28, 29, 30, 31, 32, 33, 34] (by decide +kernel) (by decide +kernel)
set_option maxRecDepth 20000 in
theorem gX4_pieces_X3_count : GoodIn wsX4_pieces (wsV RX4 136 RX3 yX3_count wsX3_count) := goodIn_app (goodIn_of _ (by decide +kernel)) ggX4_pieces_X3_count
theorem dX4_pieces_0 : decode cX4_pieces 0 = .ok (.iload_n 1, 1) := by decide +kernel
theorem dX4_pieces_1 : decode cX4_pieces 1 = .ok (.aload_n 0, 1) := by decide +kernel
theorem dX4_pieces_2 : decode cX4_pieces 2 = .ok (.getfield 19, 3) := by decide +kernel
theorem dX4_pieces_5 : decode cX4_pieces 5 = .ok (.getfield 63, 3) := by decide +kernel
theorem dX4_pieces_8 : decode cX4_pieces 8 = .ok (.invokestatic 59, 3) := by decide +kernel
theorem dX4_pieces_11 : decode cX4_pieces 11 = .ok (.iload_n 2, 1) := by decide +kernel
theorem dX4_pieces_12 : decode cX4_pieces 12 = .ok (.iconst 4, 1) := by decide +kernel
theorem dX4_pieces_13 : decode cX4_pieces 13 = .ok (.invokestatic 59, 3) := by decide +kernel
theorem dX4_pieces_16 : decode cX4_pieces 16 = .ok (.aload_n 0, 1) := by decide +kernel
theorem dX4_pieces_17 : decode cX4_pieces 17 = .ok (.getfield 19, 3) := by decide +kernel
theorem dX4_pieces_20 : decode cX4_pieces 20 = .ok (.iload_n 1, 1) := by decide +kernel
theorem dX4_pieces_21 : decode cX4_pieces 21 = .ok (.iload_n 2, 1) := by decide +kernel
theorem dX4_pieces_22 : decode cX4_pieces 22 = .ok (.invokevirtual 136, 3) := by decide +kernel
theorem dX4_pieces_25 : decode cX4_pieces 25 = .ok (.ireturn, 1) := by decide +kernel
set_option maxRecDepth 20000 in
theorem ggX4_stateOf_X4_checkIndex : GoodIn wsX4_stateOf wsX4_checkIndex := goodIn_ca (goodIn_r _ [5, 6, 7] (by decide +kernel) (by decide +kernel)) (goodIn_sub (fun _ h => List.mem_cons_of_mem _ (List.mem_append_right _ h)) (by decide +kernel))
set_option maxRecDepth 20000 in
theorem gX4_stateOf_X4_checkIndex : GoodIn wsX4_stateOf (va_wsS RX4 59 yX4_checkIndex wsX4_checkIndex) := goodIn_app (goodIn_of _ (by decide +kernel)) ggX4_stateOf_X4_checkIndex
set_option maxRecDepth 20000 in
theorem ggX4_stateOf_X3_place : GoodIn wsX4_stateOf wsX3_place := goodIn_r _ [12, 13, 14, 15, 16, 17, 18, 19, 20, 24, 25, 26, 27, 28, 29, 30, 31, 32, 33, 34, 35] (by decide +kernel) (by decide +kernel)
set_option maxRecDepth 20000 in
theorem gX4_stateOf_X3_place : GoodIn wsX4_stateOf (wsV RX4 142 RX3 yX3_place wsX3_place) := goodIn_app (goodIn_of _ (by decide +kernel)) ggX4_stateOf_X3_place
theorem dX4_stateOf_0 : decode cX4_stateOf 0 = .ok (.iload_n 1, 1) := by decide +kernel
theorem dX4_stateOf_1 : decode cX4_stateOf 1 = .ok (.aload_n 0, 1) := by decide +kernel
theorem dX4_stateOf_2 : decode cX4_stateOf 2 = .ok (.getfield 19, 3) := by decide +kernel
theorem dX4_stateOf_5 : decode cX4_stateOf 5 = .ok (.getfield 63, 3) := by decide +kernel
theorem dX4_stateOf_8 : decode cX4_stateOf 8 = .ok (.invokestatic 59, 3) := by decide +kernel
theorem dX4_stateOf_11 : decode cX4_stateOf 11 = .ok (.aload_n 0, 1) := by decide +kernel
theorem dX4_stateOf_12 : decode cX4_stateOf 12 = .ok (.getfield 19, 3) := by decide +kernel
theorem dX4_stateOf_15 : decode cX4_stateOf 15 = .ok (.iload_n 1, 1) := by decide +kernel
theorem dX4_stateOf_16 : decode cX4_stateOf 16 = .ok (.invokevirtual 142, 3) := by decide +kernel
theorem dX4_stateOf_19 : decode cX4_stateOf 19 = .ok (.ireturn, 1) := by decide +kernel
set_option maxRecDepth 20000 in
theorem ggX4_lenders_X4_checkIndex : GoodIn wsX4_lenders wsX4_checkIndex := goodIn_ca (goodIn_r _ [5, 6, 7] (by decide +kernel) (by decide +kernel)) (goodIn_sub (fun _ h => List.mem_cons_of_mem _ (List.mem_append_right _ h)) (by decide +kernel))
set_option maxRecDepth 20000 in
theorem gX4_lenders_X4_checkIndex : GoodIn wsX4_lenders (va_wsS RX4 59 yX4_checkIndex wsX4_checkIndex) := goodIn_app (goodIn_of _ (by decide +kernel)) ggX4_lenders_X4_checkIndex
set_option maxRecDepth 20000 in
theorem ggX4_lenders_X3_countLenders : GoodIn wsX4_lenders wsX3_countLenders := goodIn_r _ [12, 13, 14, 15, 16, 17, 18, 19, 20, 11, 21, 22, 23, 24, 25, 26, 27, 28, 29, 30, 31, 32, 33, 34, 35, 36, 37, 38, 39, 40, 41, 42, 43, 44, 45, 46, 47, 48, 49, 50, 51, 55, 56, 57, 58, 59, 60, 61, 62, 63, 64, 65, 66] (by decide +kernel) (by decide +kernel)
set_option maxRecDepth 20000 in
theorem gX4_lenders_X3_countLenders : GoodIn wsX4_lenders (wsV RX4 151 RX3 yX3_countLenders wsX3_countLenders) := goodIn_app (goodIn_of _ (by decide +kernel)) ggX4_lenders_X3_countLenders
theorem dX4_lenders_0 : decode cX4_lenders 0 = .ok (.iload_n 1, 1) := by decide +kernel
theorem dX4_lenders_1 : decode cX4_lenders 1 = .ok (.aload_n 0, 1) := by decide +kernel
theorem dX4_lenders_2 : decode cX4_lenders 2 = .ok (.getfield 19, 3) := by decide +kernel
theorem dX4_lenders_5 : decode cX4_lenders 5 = .ok (.getfield 63, 3) := by decide +kernel
theorem dX4_lenders_8 : decode cX4_lenders 8 = .ok (.invokestatic 59, 3) := by decide +kernel
theorem dX4_lenders_11 : decode cX4_lenders 11 = .ok (.aload_n 0, 1) := by decide +kernel
theorem dX4_lenders_12 : decode cX4_lenders 12 = .ok (.getfield 19, 3) := by decide +kernel
theorem dX4_lenders_15 : decode cX4_lenders 15 = .ok (.iload_n 1, 1) := by decide +kernel
theorem dX4_lenders_16 : decode cX4_lenders 16 = .ok (.invokevirtual 151, 3) := by decide +kernel
theorem dX4_lenders_19 : decode cX4_lenders 19 = .ok (.ireturn, 1) := by decide +kernel
set_option maxRecDepth 20000 in
theorem ggX4_copyOf_X4_checkIndex : GoodIn wsX4_copyOf wsX4_checkIndex := goodIn_ca (goodIn_r _ [6, 7, 8] (by decide +kernel) (by decide +kernel)) (goodIn_sub (fun _ h => List.mem_cons_of_mem _ (List.mem_append_right _ h)) (by decide +kernel))
set_option maxRecDepth 20000 in
theorem gX4_copyOf_X4_checkIndex : GoodIn wsX4_copyOf (va_wsS RX4 59 yX4_checkIndex wsX4_checkIndex) := goodIn_app (goodIn_of _ (by decide +kernel)) ggX4_copyOf_X4_checkIndex
set_option maxRecDepth 20000 in
theorem ggX4_copyOf_X3_heldBy : GoodIn wsX4_copyOf wsX3_heldBy := goodIn_r _ [13, 14, 15, 16, 17, 18, 19, 20, 21, 34, 35, 36, 37, 38, 39, 40, 41, 42, 43, 44, 45] (by decide +kernel) (by decide +kernel)
set_option maxRecDepth 20000 in
theorem gX4_copyOf_X3_heldBy : GoodIn wsX4_copyOf (wsV RX4 83 RX3 yX3_heldBy wsX3_heldBy) := goodIn_app (goodIn_of _ (by decide +kernel)) ggX4_copyOf_X3_heldBy
theorem dX4_copyOf_0 : decode cX4_copyOf 0 = .ok (.iload_n 1, 1) := by decide +kernel
theorem dX4_copyOf_1 : decode cX4_copyOf 1 = .ok (.aload_n 0, 1) := by decide +kernel
theorem dX4_copyOf_2 : decode cX4_copyOf 2 = .ok (.getfield 10, 3) := by decide +kernel
theorem dX4_copyOf_5 : decode cX4_copyOf 5 = .ok (.getfield 76, 3) := by decide +kernel
theorem dX4_copyOf_8 : decode cX4_copyOf 8 = .ok (.invokestatic 59, 3) := by decide +kernel
theorem dX4_copyOf_11 : decode cX4_copyOf 11 = .ok (.aload_n 0, 1) := by decide +kernel
theorem dX4_copyOf_12 : decode cX4_copyOf 12 = .ok (.getfield 19, 3) := by decide +kernel
theorem dX4_copyOf_15 : decode cX4_copyOf 15 = .ok (.iload_n 1, 1) := by decide +kernel
theorem dX4_copyOf_16 : decode cX4_copyOf 16 = .ok (.invokevirtual 83, 3) := by decide +kernel
theorem dX4_copyOf_19 : decode cX4_copyOf 19 = .ok (.ireturn, 1) := by decide +kernel
set_option maxRecDepth 20000 in
theorem ggX4_ruling_X4_checkIndex : GoodIn wsX4_ruling wsX4_checkIndex := goodIn_ca (goodIn_r _ [7, 8, 9] (by decide +kernel) (by decide +kernel)) (goodIn_sub (fun _ h => List.mem_cons_of_mem _ (List.mem_append_left _ (List.mem_append_right _ h))) (by decide +kernel))
set_option maxRecDepth 20000 in
theorem gX4_ruling_X4_checkIndex : GoodIn wsX4_ruling (va_wsS RX4 59 yX4_checkIndex wsX4_checkIndex) := goodIn_app (goodIn_of _ (by decide +kernel)) ggX4_ruling_X4_checkIndex
set_option maxRecDepth 20000 in
theorem ggX4_ruling_X3_heldBy : GoodIn wsX4_ruling wsX3_heldBy := goodIn_r _ [14, 15, 16, 17, 18, 19, 20, 21, 22, 95, 96, 97, 98, 99, 100, 101, 102, 103, 104, 105, 106] (by decide +kernel) (by decide +kernel)
set_option maxRecDepth 20000 in
theorem gX4_ruling_X3_heldBy : GoodIn wsX4_ruling (wsV RX4 83 RX3 yX3_heldBy wsX3_heldBy) := goodIn_app (goodIn_of _ (by decide +kernel)) ggX4_ruling_X3_heldBy
set_option maxRecDepth 20000 in
theorem ggX4_ruling_X4_checkState : GoodIn wsX4_ruling wsX4_checkState := goodIn_ca (goodIn_r _ [25, 26, 27] (by decide +kernel) (by decide +kernel)) (goodIn_sub (fun _ h => List.mem_cons_of_mem _ (List.mem_append_right _ h)) (by decide +kernel))
set_option maxRecDepth 20000 in
theorem gX4_ruling_X4_checkState : GoodIn wsX4_ruling (va_wsS RX4 38 yX4_checkState wsX4_checkState) := goodIn_app (goodIn_of _ (by decide +kernel)) ggX4_ruling_X4_checkState
set_option maxRecDepth 20000 in
theorem ggX4_ruling_X4_playedBy : GoodIn wsX4_ruling wsX4_playedBy := goodIn_r _ [31, 2, 10, 11, 12, 13, 14, 15, 16, 17, 18, 19, 20, 21, 22, 32, 83, 84, 85, 95, 96, 97, 98, 99, 100, 101, 102, 103, 104, 105, 106] (by decide +kernel) (by decide +kernel)
set_option maxRecDepth 20000 in
theorem gX4_ruling_X4_playedBy : GoodIn wsX4_ruling (wsV RX4 154 RX4 yX4_playedBy wsX4_playedBy) := goodIn_app (goodIn_of _ (by decide +kernel)) ggX4_ruling_X4_playedBy
set_option maxRecDepth 20000 in
theorem ggX4_ruling_X4_holdingFor : GoodIn wsX4_ruling wsX4_holdingFor := goodIn_r _ [36, 2, 3, 1, 10, 11, 12, 13, 14, 15, 16, 17, 18, 19, 20, 21, 22, 37, 38, 39, 40, 41, 42, 28, 29, 30, 6, 31, 32, 43, 44, 45, 46, 47, 48, 49, 50, 51, 52, 53, 54, 55, 56, 57, 58, 59, 60, 61, 62, 63, 64, 65, 66, 83, 84, 85, 86, 87, 88, 89, 90, 91, 92, 93, 94, 95, 96, 97, 98, 99, 100, 101, 102, 103, 104, 105, 106, 107, 108, 109, 110, 111] (by decide +kernel) (by decide +kernel)
set_option maxRecDepth 20000 in
theorem gX4_ruling_X4_holdingFor : GoodIn wsX4_ruling (wsV RX4 157 RX4 yX4_holdingFor wsX4_holdingFor) := goodIn_app (goodIn_of _ (by decide +kernel)) ggX4_ruling_X4_holdingFor
set_option maxRecDepth 20000 in
theorem ggX4_ruling_X1_rulingGoingDown : GoodIn wsX4_ruling wsX1_rulingGoingDown := goodIn_r _ [70, 71, 72, 73, 74, 58, 75, 60, 63, 18, 19, 20, 21, 22, 76, 77, 78, 79, 80, 81, 6, 82, 107, 108, 109, 110, 111, 106] (by decide +kernel) (by decide +kernel)
set_option maxRecDepth 20000 in
theorem gX4_ruling_X1_rulingGoingDown : GoodIn wsX4_ruling (wsV RX4 160 RX1 yX1_rulingGoingDown wsX1_rulingGoingDown) := goodIn_app (goodIn_of _ (by decide +kernel)) ggX4_ruling_X1_rulingGoingDown
theorem dX4_ruling_0 : decode cX4_ruling 0 = .ok (.iload_n 1, 1) := by decide +kernel
theorem dX4_ruling_1 : decode cX4_ruling 1 = .ok (.aload_n 0, 1) := by decide +kernel
theorem dX4_ruling_2 : decode cX4_ruling 2 = .ok (.getfield 10, 3) := by decide +kernel
theorem dX4_ruling_5 : decode cX4_ruling 5 = .ok (.getfield 76, 3) := by decide +kernel
theorem dX4_ruling_8 : decode cX4_ruling 8 = .ok (.invokestatic 59, 3) := by decide +kernel
theorem dX4_ruling_11 : decode cX4_ruling 11 = .ok (.aload_n 0, 1) := by decide +kernel
theorem dX4_ruling_12 : decode cX4_ruling 12 = .ok (.getfield 19, 3) := by decide +kernel
theorem dX4_ruling_15 : decode cX4_ruling 15 = .ok (.iload_n 1, 1) := by decide +kernel
theorem dX4_ruling_16 : decode cX4_ruling 16 = .ok (.invokevirtual 83, 3) := by decide +kernel
theorem dX4_ruling_19 : decode cX4_ruling 19 = .ok (.iconst (-1), 1) := by decide +kernel
theorem dX4_ruling_20 : decode cX4_ruling 20 = .ok (.if_icmp .eq 7, 3) := by decide +kernel
theorem dX4_ruling_23 : decode cX4_ruling 23 = .ok (.iconst 1, 1) := by decide +kernel
theorem dX4_ruling_24 : decode cX4_ruling 24 = .ok (.goto 4, 3) := by decide +kernel
theorem dX4_ruling_27 : decode cX4_ruling 27 = .ok (.iconst 0, 1) := by decide +kernel
theorem dX4_ruling_28 : decode cX4_ruling 28 = .ok (.invokestatic 38, 3) := by decide +kernel
theorem dX4_ruling_31 : decode cX4_ruling 31 = .ok (.aload_n 0, 1) := by decide +kernel
theorem dX4_ruling_32 : decode cX4_ruling 32 = .ok (.getfield 26, 3) := by decide +kernel
theorem dX4_ruling_35 : decode cX4_ruling 35 = .ok (.aload_n 0, 1) := by decide +kernel
theorem dX4_ruling_36 : decode cX4_ruling 36 = .ok (.iload_n 1, 1) := by decide +kernel
theorem dX4_ruling_37 : decode cX4_ruling 37 = .ok (.invokevirtual 154, 3) := by decide +kernel
theorem dX4_ruling_40 : decode cX4_ruling 40 = .ok (.aload_n 0, 1) := by decide +kernel
theorem dX4_ruling_41 : decode cX4_ruling 41 = .ok (.iload_n 1, 1) := by decide +kernel
theorem dX4_ruling_42 : decode cX4_ruling 42 = .ok (.invokevirtual 157, 3) := by decide +kernel
theorem dX4_ruling_45 : decode cX4_ruling 45 = .ok (.invokevirtual 160, 3) := by decide +kernel
theorem dX4_ruling_48 : decode cX4_ruling 48 = .ok (.ireturn, 1) := by decide +kernel
set_option maxRecDepth 20000 in
theorem ggX4_rulingFromBelow_X4_checkIndex : GoodIn wsX4_rulingFromBelow wsX4_checkIndex := goodIn_ca (goodIn_r _ [7, 8, 9] (by decide +kernel) (by decide +kernel)) (goodIn_sub (fun _ h => List.mem_cons_of_mem _ (List.mem_append_left _ (List.mem_append_right _ h))) (by decide +kernel))
set_option maxRecDepth 20000 in
theorem gX4_rulingFromBelow_X4_checkIndex : GoodIn wsX4_rulingFromBelow (va_wsS RX4 59 yX4_checkIndex wsX4_checkIndex) := goodIn_app (goodIn_of _ (by decide +kernel)) ggX4_rulingFromBelow_X4_checkIndex
set_option maxRecDepth 20000 in
theorem ggX4_rulingFromBelow_X3_heldBy : GoodIn wsX4_rulingFromBelow wsX3_heldBy := goodIn_r _ [14, 15, 16, 17, 18, 19, 20, 21, 22, 99, 100, 101, 102, 103, 104, 105, 106, 107, 108, 109, 110] (by decide +kernel) (by decide +kernel)
set_option maxRecDepth 20000 in
theorem gX4_rulingFromBelow_X3_heldBy : GoodIn wsX4_rulingFromBelow (wsV RX4 83 RX3 yX3_heldBy wsX3_heldBy) := goodIn_app (goodIn_of _ (by decide +kernel)) ggX4_rulingFromBelow_X3_heldBy
set_option maxRecDepth 20000 in
theorem ggX4_rulingFromBelow_X4_checkState : GoodIn wsX4_rulingFromBelow wsX4_checkState := goodIn_ca (goodIn_r _ [25, 26, 27] (by decide +kernel) (by decide +kernel)) (goodIn_sub (fun _ h => List.mem_cons_of_mem _ (List.mem_append_right _ h)) (by decide +kernel))
set_option maxRecDepth 20000 in
theorem gX4_rulingFromBelow_X4_checkState : GoodIn wsX4_rulingFromBelow (va_wsS RX4 38 yX4_checkState wsX4_checkState) := goodIn_app (goodIn_of _ (by decide +kernel)) ggX4_rulingFromBelow_X4_checkState
set_option maxRecDepth 20000 in
theorem ggX4_rulingFromBelow_X4_playedBy : GoodIn wsX4_rulingFromBelow wsX4_playedBy := goodIn_r _ [31, 2, 10, 11, 12, 13, 14, 15, 16, 17, 18, 19, 20, 21, 22, 32, 87, 88, 89, 99, 100, 101, 102, 103, 104, 105, 106, 107, 108, 109, 110] (by decide +kernel) (by decide +kernel)
set_option maxRecDepth 20000 in
theorem gX4_rulingFromBelow_X4_playedBy : GoodIn wsX4_rulingFromBelow (wsV RX4 154 RX4 yX4_playedBy wsX4_playedBy) := goodIn_app (goodIn_of _ (by decide +kernel)) ggX4_rulingFromBelow_X4_playedBy
set_option maxRecDepth 20000 in
theorem ggX4_rulingFromBelow_X4_holdingFor : GoodIn wsX4_rulingFromBelow wsX4_holdingFor := goodIn_r _ [36, 2, 3, 1, 10, 11, 12, 13, 14, 15, 16, 17, 18, 19, 20, 21, 22, 37, 38, 39, 40, 41, 42, 28, 29, 30, 6, 31, 32, 43, 44, 45, 46, 47, 48, 49, 50, 51, 52, 53, 54, 55, 56, 57, 58, 59, 60, 61, 62, 63, 64, 65, 66, 87, 88, 89, 90, 91, 92, 93, 94, 95, 96, 97, 98, 99, 100, 101, 102, 103, 104, 105, 106, 107, 108, 109, 110, 111, 112, 113, 114, 115] (by decide +kernel) (by decide +kernel)
set_option maxRecDepth 20000 in
theorem gX4_rulingFromBelow_X4_holdingFor : GoodIn wsX4_rulingFromBelow (wsV RX4 157 RX4 yX4_holdingFor wsX4_holdingFor) := goodIn_app (goodIn_of _ (by decide +kernel)) ggX4_rulingFromBelow_X4_holdingFor
set_option maxRecDepth 20000 in
theorem ggX4_rulingFromBelow_X1_rulingGoingUp : GoodIn wsX4_rulingFromBelow wsX1_rulingGoingUp := goodIn_r _ [70, 60, 71, 63, 18, 19, 20, 21, 22, 72, 73, 74, 58, 75, 76, 77, 78, 79, 80, 81, 82, 83, 84, 85, 6, 86, 111, 112, 113, 114, 115, 110] (by decide +kernel) (by decide +kernel)
set_option maxRecDepth 20000 in
theorem gX4_rulingFromBelow_X1_rulingGoingUp : GoodIn wsX4_rulingFromBelow (wsV RX4 163 RX1 yX1_rulingGoingUp wsX1_rulingGoingUp) := goodIn_app (goodIn_of _ (by decide +kernel)) ggX4_rulingFromBelow_X1_rulingGoingUp
theorem dX4_rulingFromBelow_0 : decode cX4_rulingFromBelow 0 = .ok (.iload_n 1, 1) := by decide +kernel
theorem dX4_rulingFromBelow_1 : decode cX4_rulingFromBelow 1 = .ok (.aload_n 0, 1) := by decide +kernel
theorem dX4_rulingFromBelow_2 : decode cX4_rulingFromBelow 2 = .ok (.getfield 10, 3) := by decide +kernel
theorem dX4_rulingFromBelow_5 : decode cX4_rulingFromBelow 5 = .ok (.getfield 76, 3) := by decide +kernel
theorem dX4_rulingFromBelow_8 : decode cX4_rulingFromBelow 8 = .ok (.invokestatic 59, 3) := by decide +kernel
theorem dX4_rulingFromBelow_11 : decode cX4_rulingFromBelow 11 = .ok (.aload_n 0, 1) := by decide +kernel
theorem dX4_rulingFromBelow_12 : decode cX4_rulingFromBelow 12 = .ok (.getfield 19, 3) := by decide +kernel
theorem dX4_rulingFromBelow_15 : decode cX4_rulingFromBelow 15 = .ok (.iload_n 1, 1) := by decide +kernel
theorem dX4_rulingFromBelow_16 : decode cX4_rulingFromBelow 16 = .ok (.invokevirtual 83, 3) := by decide +kernel
theorem dX4_rulingFromBelow_19 : decode cX4_rulingFromBelow 19 = .ok (.iconst (-1), 1) := by decide +kernel
theorem dX4_rulingFromBelow_20 : decode cX4_rulingFromBelow 20 = .ok (.if_icmp .eq 7, 3) := by decide +kernel
theorem dX4_rulingFromBelow_23 : decode cX4_rulingFromBelow 23 = .ok (.iconst 1, 1) := by decide +kernel
theorem dX4_rulingFromBelow_24 : decode cX4_rulingFromBelow 24 = .ok (.goto 4, 3) := by decide +kernel
theorem dX4_rulingFromBelow_27 : decode cX4_rulingFromBelow 27 = .ok (.iconst 0, 1) := by decide +kernel
theorem dX4_rulingFromBelow_28 : decode cX4_rulingFromBelow 28 = .ok (.invokestatic 38, 3) := by decide +kernel
theorem dX4_rulingFromBelow_31 : decode cX4_rulingFromBelow 31 = .ok (.aload_n 0, 1) := by decide +kernel
theorem dX4_rulingFromBelow_32 : decode cX4_rulingFromBelow 32 = .ok (.getfield 26, 3) := by decide +kernel
theorem dX4_rulingFromBelow_35 : decode cX4_rulingFromBelow 35 = .ok (.aload_n 0, 1) := by decide +kernel
theorem dX4_rulingFromBelow_36 : decode cX4_rulingFromBelow 36 = .ok (.iload_n 1, 1) := by decide +kernel
theorem dX4_rulingFromBelow_37 : decode cX4_rulingFromBelow 37 = .ok (.invokevirtual 154, 3) := by decide +kernel
theorem dX4_rulingFromBelow_40 : decode cX4_rulingFromBelow 40 = .ok (.aload_n 0, 1) := by decide +kernel
theorem dX4_rulingFromBelow_41 : decode cX4_rulingFromBelow 41 = .ok (.iload_n 1, 1) := by decide +kernel
theorem dX4_rulingFromBelow_42 : decode cX4_rulingFromBelow 42 = .ok (.invokevirtual 157, 3) := by decide +kernel
theorem dX4_rulingFromBelow_45 : decode cX4_rulingFromBelow 45 = .ok (.invokevirtual 163, 3) := by decide +kernel
theorem dX4_rulingFromBelow_48 : decode cX4_rulingFromBelow 48 = .ok (.ireturn, 1) := by decide +kernel
set_option maxRecDepth 20000 in
theorem ggX4_depth_X4_checkIndex : GoodIn wsX4_depth wsX4_checkIndex := goodIn_ca (goodIn_r _ [6, 7, 8] (by decide +kernel) (by decide +kernel)) (goodIn_sub (fun _ h => List.mem_cons_of_mem _ (List.mem_append_right _ h)) (by decide +kernel))
set_option maxRecDepth 20000 in
theorem gX4_depth_X4_checkIndex : GoodIn wsX4_depth (va_wsS RX4 59 yX4_checkIndex wsX4_checkIndex) := goodIn_app (goodIn_of _ (by decide +kernel)) ggX4_depth_X4_checkIndex
set_option maxRecDepth 20000 in
theorem ggX4_depth_X1_deepest : GoodIn wsX4_depth wsX1_deepest := goodIn_r _ [13, 14, 15, 16, 17, 18, 19, 20, 21, 22, 23, 24, 25, 26, 27, 12, 28, 29, 30, 31, 32, 33, 48, 49, 50, 51, 52, 53] (by decide +kernel) (by decide +kernel)
set_option maxRecDepth 20000 in
theorem gX4_depth_X1_deepest : GoodIn wsX4_depth (wsV RX4 166 RX1 yX1_deepest wsX1_deepest) := goodIn_app (goodIn_of _ (by decide +kernel)) ggX4_depth_X1_deepest
theorem dX4_depth_0 : decode cX4_depth 0 = .ok (.iload_n 1, 1) := by decide +kernel
theorem dX4_depth_1 : decode cX4_depth 1 = .ok (.aload_n 0, 1) := by decide +kernel
theorem dX4_depth_2 : decode cX4_depth 2 = .ok (.getfield 19, 3) := by decide +kernel
theorem dX4_depth_5 : decode cX4_depth 5 = .ok (.getfield 49, 3) := by decide +kernel
theorem dX4_depth_8 : decode cX4_depth 8 = .ok (.invokestatic 59, 3) := by decide +kernel
theorem dX4_depth_11 : decode cX4_depth 11 = .ok (.aload_n 0, 1) := by decide +kernel
theorem dX4_depth_12 : decode cX4_depth 12 = .ok (.getfield 26, 3) := by decide +kernel
theorem dX4_depth_15 : decode cX4_depth 15 = .ok (.iload_n 1, 1) := by decide +kernel
theorem dX4_depth_16 : decode cX4_depth 16 = .ok (.invokevirtual 166, 3) := by decide +kernel
theorem dX4_depth_19 : decode cX4_depth 19 = .ok (.ireturn, 1) := by decide +kernel
set_option maxRecDepth 20000 in
theorem ggX4_isOffered_X0_isSeated : GoodIn wsX4_isOffered wsX0_isSeated := goodIn_r _ [7, 8, 9, 10, 11, 12, 13, 14, 82, 83, 84, 85, 86, 87, 88, 89, 90, 91] (by decide +kernel) (by decide +kernel)
set_option maxRecDepth 20000 in
theorem gX4_isOffered_X0_isSeated : GoodIn wsX4_isOffered (wsV RX4 109 RX0 yX0_isSeated wsX0_isSeated) := goodIn_app (goodIn_of _ (by decide +kernel)) ggX4_isOffered_X0_isSeated
set_option maxRecDepth 20000 in
theorem ggX4_isOffered_X3_heldBy : GoodIn wsX4_isOffered wsX3_heldBy := goodIn_r _ [19, 20, 21, 22, 10, 11, 12, 13, 14, 92, 93, 94, 95, 96, 97, 98, 99, 100, 101, 102, 91] (by decide +kernel) (by decide +kernel)
set_option maxRecDepth 20000 in
theorem gX4_isOffered_X3_heldBy : GoodIn wsX4_isOffered (wsV RX4 83 RX3 yX3_heldBy wsX3_heldBy) := goodIn_app (goodIn_of _ (by decide +kernel)) ggX4_isOffered_X3_heldBy
set_option maxRecDepth 20000 in
theorem ggX4_isOffered_X2_at : GoodIn wsX4_isOffered wsX2_at := goodIn_r _ [13, 14, 91] (by decide +kernel) (by decide +kernel)
set_option maxRecDepth 20000 in
theorem gX4_isOffered_X2_at : GoodIn wsX4_isOffered (wsV RX4 173 RX2 yX2_at wsX2_at) := goodIn_app (goodIn_of _ (by decide +kernel)) ggX4_isOffered_X2_at
set_option maxRecDepth 20000 in
theorem ggX4_isOffered_X0_minutesLeft : GoodIn wsX4_isOffered wsX0_minutesLeft := goodIn_r _ [27, 28, 29, 30, 31, 32, 33, 9, 10, 11, 12, 13, 14, 82, 83, 84, 85, 86, 87, 88, 89, 90, 91] (by decide +kernel) (by decide +kernel)
set_option maxRecDepth 20000 in
theorem gX4_isOffered_X0_minutesLeft : GoodIn wsX4_isOffered (wsV RX4 112 RX0 yX0_minutesLeft wsX0_minutesLeft) := goodIn_app (goodIn_of _ (by decide +kernel)) ggX4_isOffered_X0_minutesLeft
set_option maxRecDepth 20000 in
theorem ggX4_isOffered_X3_suits : GoodIn wsX4_isOffered wsX3_suits := goodIn_r _ [37, 38, 39, 40, 22, 10, 11, 12, 13, 14, 92, 93, 94, 95, 96, 97, 98, 99, 100, 101, 102, 91] (by decide +kernel) (by decide +kernel)
set_option maxRecDepth 20000 in
theorem gX4_isOffered_X3_suits : GoodIn wsX4_isOffered (wsV RX4 178 RX3 yX3_suits wsX3_suits) := goodIn_app (goodIn_of _ (by decide +kernel)) ggX4_isOffered_X3_suits
set_option maxRecDepth 20000 in
theorem ggX4_isOffered_X3_bestCopy : GoodIn wsX4_isOffered wsX3_bestCopy := goodIn_r _ [44, 20, 45, 22, 10, 11, 12, 13, 14, 46, 47, 48, 18, 49, 50, 51, 32, 52, 53, 54, 55, 56, 21, 57, 58, 59, 60, 61, 62, 63, 64, 65, 66, 67, 68, 69, 70, 71, 72, 73, 74, 75, 76, 77, 78, 92, 93, 94, 95, 96, 97, 98, 99, 100, 101, 102, 91] (by decide +kernel) (by decide +kernel)
set_option maxRecDepth 20000 in
theorem gX4_isOffered_X3_bestCopy : GoodIn wsX4_isOffered (wsV RX4 130 RX3 yX3_bestCopy wsX3_bestCopy) := goodIn_app (goodIn_of _ (by decide +kernel)) ggX4_isOffered_X3_bestCopy
theorem dX4_isOffered_0 : decode cX4_isOffered 0 = .ok (.aload_n 0, 1) := by decide +kernel
theorem dX4_isOffered_1 : decode cX4_isOffered 1 = .ok (.getfield 10, 3) := by decide +kernel
theorem dX4_isOffered_4 : decode cX4_isOffered 4 = .ok (.iload_n 1, 1) := by decide +kernel
theorem dX4_isOffered_5 : decode cX4_isOffered 5 = .ok (.invokevirtual 109, 3) := by decide +kernel
theorem dX4_isOffered_8 : decode cX4_isOffered 8 = .ok (.ifCond .eq 61, 3) := by decide +kernel
theorem dX4_isOffered_11 : decode cX4_isOffered 11 = .ok (.aload_n 0, 1) := by decide +kernel
theorem dX4_isOffered_12 : decode cX4_isOffered 12 = .ok (.getfield 19, 3) := by decide +kernel
end
section
theorem dX4_isOffered_15 : decode cX4_isOffered 15 = .ok (.iload_n 1, 1) := by decide +kernel
theorem dX4_isOffered_16 : decode cX4_isOffered 16 = .ok (.invokevirtual 83, 3) := by decide +kernel
theorem dX4_isOffered_19 : decode cX4_isOffered 19 = .ok (.iconst (-1), 1) := by decide +kernel
theorem dX4_isOffered_20 : decode cX4_isOffered 20 = .ok (.if_icmp .ne 49, 3) := by decide +kernel
theorem dX4_isOffered_23 : decode cX4_isOffered 23 = .ok (.aload_n 0, 1) := by decide +kernel
theorem dX4_isOffered_24 : decode cX4_isOffered 24 = .ok (.getfield 19, 3) := by decide +kernel
theorem dX4_isOffered_27 : decode cX4_isOffered 27 = .ok (.iload_n 2, 1) := by decide +kernel
theorem dX4_isOffered_28 : decode cX4_isOffered 28 = .ok (.aload_n 0, 1) := by decide +kernel
theorem dX4_isOffered_29 : decode cX4_isOffered 29 = .ok (.getfield 10, 3) := by decide +kernel
theorem dX4_isOffered_32 : decode cX4_isOffered 32 = .ok (.getfield 169, 3) := by decide +kernel
theorem dX4_isOffered_35 : decode cX4_isOffered 35 = .ok (.iload_n 1, 1) := by decide +kernel
theorem dX4_isOffered_36 : decode cX4_isOffered 36 = .ok (.invokevirtual 173, 3) := by decide +kernel
theorem dX4_isOffered_39 : decode cX4_isOffered 39 = .ok (.aload_n 0, 1) := by decide +kernel
theorem dX4_isOffered_40 : decode cX4_isOffered 40 = .ok (.getfield 10, 3) := by decide +kernel
theorem dX4_isOffered_43 : decode cX4_isOffered 43 = .ok (.iload_n 1, 1) := by decide +kernel
theorem dX4_isOffered_44 : decode cX4_isOffered 44 = .ok (.invokevirtual 112, 3) := by decide +kernel
theorem dX4_isOffered_47 : decode cX4_isOffered 47 = .ok (.invokevirtual 178, 3) := by decide +kernel
theorem dX4_isOffered_50 : decode cX4_isOffered 50 = .ok (.ifCond .eq 19, 3) := by decide +kernel
theorem dX4_isOffered_53 : decode cX4_isOffered 53 = .ok (.aload_n 0, 1) := by decide +kernel
theorem dX4_isOffered_54 : decode cX4_isOffered 54 = .ok (.getfield 19, 3) := by decide +kernel
theorem dX4_isOffered_57 : decode cX4_isOffered 57 = .ok (.iload_n 2, 1) := by decide +kernel
theorem dX4_isOffered_58 : decode cX4_isOffered 58 = .ok (.invokevirtual 130, 3) := by decide +kernel
theorem dX4_isOffered_61 : decode cX4_isOffered 61 = .ok (.iconst (-1), 1) := by decide +kernel
theorem dX4_isOffered_62 : decode cX4_isOffered 62 = .ok (.if_icmp .eq 7, 3) := by decide +kernel
theorem dX4_isOffered_65 : decode cX4_isOffered 65 = .ok (.iconst 1, 1) := by decide +kernel
theorem dX4_isOffered_66 : decode cX4_isOffered 66 = .ok (.goto 4, 3) := by decide +kernel
theorem dX4_isOffered_69 : decode cX4_isOffered 69 = .ok (.iconst 0, 1) := by decide +kernel
theorem dX4_isOffered_70 : decode cX4_isOffered 70 = .ok (.ireturn, 1) := by decide +kernel
set_option maxRecDepth 20000 in
theorem ggX4_offeredTitles_X4_isOffered : GoodIn wsX4_offeredTitles wsX4_isOffered := goodIn_r _ [6, 7, 1, 8, 9, 10, 11, 12, 13, 14, 15, 16, 17, 18, 19, 20, 21, 22, 23, 24, 25, 26, 27, 28, 29, 30, 31, 32, 33, 34, 35, 36, 37, 38, 39, 40, 41, 42, 43, 44, 45, 46, 47, 48, 49, 50, 51, 52, 53, 54, 55, 56, 57, 58, 59, 60, 61, 62, 63, 64, 65, 66, 67, 68, 69, 70, 71, 72, 73, 74, 75, 76, 77, 78, 79, 80, 81, 82, 83, 84, 85, 86, 98, 99, 100, 101, 102, 103, 104, 105, 106, 107, 87, 88, 89, 90, 91, 92, 93, 94, 95, 96, 97] (by decide +kernel) (by decide +kernel)
set_option maxRecDepth 20000 in
theorem gX4_offeredTitles_X4_isOffered : GoodIn wsX4_offeredTitles (wsV RX4 126 RX4 yX4_isOffered wsX4_isOffered) := goodIn_app (goodIn_of _ (by decide +kernel)) ggX4_offeredTitles_X4_isOffered
theorem dX4_offeredTitles_0 : decode cX4_offeredTitles 0 = .ok (.iconst 0, 1) := by decide +kernel
theorem dX4_offeredTitles_1 : decode cX4_offeredTitles 1 = .ok (.istore_n 2, 1) := by decide +kernel
theorem dX4_offeredTitles_2 : decode cX4_offeredTitles 2 = .ok (.iconst 0, 1) := by decide +kernel
theorem dX4_offeredTitles_3 : decode cX4_offeredTitles 3 = .ok (.istore_n 3, 1) := by decide +kernel
theorem dX4_offeredTitles_4 : decode cX4_offeredTitles 4 = .ok (.iload_n 3, 1) := by decide +kernel
theorem dX4_offeredTitles_5 : decode cX4_offeredTitles 5 = .ok (.aload_n 0, 1) := by decide +kernel
theorem dX4_offeredTitles_6 : decode cX4_offeredTitles 6 = .ok (.getfield 19, 3) := by decide +kernel
theorem dX4_offeredTitles_9 : decode cX4_offeredTitles 9 = .ok (.getfield 49, 3) := by decide +kernel
theorem dX4_offeredTitles_12 : decode cX4_offeredTitles 12 = .ok (.if_icmp .ge 24, 3) := by decide +kernel
theorem dX4_offeredTitles_15 : decode cX4_offeredTitles 15 = .ok (.aload_n 0, 1) := by decide +kernel
theorem dX4_offeredTitles_16 : decode cX4_offeredTitles 16 = .ok (.iload_n 1, 1) := by decide +kernel
theorem dX4_offeredTitles_17 : decode cX4_offeredTitles 17 = .ok (.iload_n 3, 1) := by decide +kernel
theorem dX4_offeredTitles_18 : decode cX4_offeredTitles 18 = .ok (.invokevirtual 126, 3) := by decide +kernel
theorem dX4_offeredTitles_21 : decode cX4_offeredTitles 21 = .ok (.ifCond .eq 9, 3) := by decide +kernel
theorem dX4_offeredTitles_24 : decode cX4_offeredTitles 24 = .ok (.iload_n 2, 1) := by decide +kernel
theorem dX4_offeredTitles_25 : decode cX4_offeredTitles 25 = .ok (.iconst 1, 1) := by decide +kernel
theorem dX4_offeredTitles_26 : decode cX4_offeredTitles 26 = .ok (.iload_n 3, 1) := by decide +kernel
theorem dX4_offeredTitles_27 : decode cX4_offeredTitles 27 = .ok (.ishl, 1) := by decide +kernel
theorem dX4_offeredTitles_28 : decode cX4_offeredTitles 28 = .ok (.ior, 1) := by decide +kernel
theorem dX4_offeredTitles_29 : decode cX4_offeredTitles 29 = .ok (.istore_n 2, 1) := by decide +kernel
theorem dX4_offeredTitles_30 : decode cX4_offeredTitles 30 = .ok (.iinc 3 1, 3) := by decide +kernel
theorem dX4_offeredTitles_33 : decode cX4_offeredTitles 33 = .ok (.goto (-29), 3) := by decide +kernel
theorem dX4_offeredTitles_36 : decode cX4_offeredTitles 36 = .ok (.iload_n 2, 1) := by decide +kernel
theorem dX4_offeredTitles_37 : decode cX4_offeredTitles 37 = .ok (.ireturn, 1) := by decide +kernel
set_option maxRecDepth 20000 in
theorem ggX4_playedBy_X3_heldBy : GoodIn wsX4_playedBy wsX3_heldBy := goodIn_r _ [6, 7, 8, 9, 10, 11, 12, 13, 14, 19, 20, 21, 22, 23, 24, 25, 26, 27, 28, 29, 30] (by decide +kernel) (by decide +kernel)
set_option maxRecDepth 20000 in
theorem gX4_playedBy_X3_heldBy : GoodIn wsX4_playedBy (wsV RX4 83 RX3 yX3_heldBy wsX3_heldBy) := goodIn_app (goodIn_of _ (by decide +kernel)) ggX4_playedBy_X3_heldBy
set_option maxRecDepth 20000 in
theorem ggX4_playedBy_X2_at : GoodIn wsX4_playedBy wsX2_at := goodIn_r _ [13, 14, 30] (by decide +kernel) (by decide +kernel)
set_option maxRecDepth 20000 in
theorem gX4_playedBy_X2_at : GoodIn wsX4_playedBy (wsV RX4 173 RX2 yX2_at wsX2_at) := goodIn_app (goodIn_of _ (by decide +kernel)) ggX4_playedBy_X2_at
theorem dX4_playedBy_0 : decode cX4_playedBy 0 = .ok (.aload_n 0, 1) := by decide +kernel
theorem dX4_playedBy_1 : decode cX4_playedBy 1 = .ok (.getfield 19, 3) := by decide +kernel
theorem dX4_playedBy_4 : decode cX4_playedBy 4 = .ok (.getfield 182, 3) := by decide +kernel
theorem dX4_playedBy_7 : decode cX4_playedBy 7 = .ok (.aload_n 0, 1) := by decide +kernel
theorem dX4_playedBy_8 : decode cX4_playedBy 8 = .ok (.getfield 19, 3) := by decide +kernel
theorem dX4_playedBy_11 : decode cX4_playedBy 11 = .ok (.iload_n 1, 1) := by decide +kernel
theorem dX4_playedBy_12 : decode cX4_playedBy 12 = .ok (.invokevirtual 83, 3) := by decide +kernel
theorem dX4_playedBy_15 : decode cX4_playedBy 15 = .ok (.invokevirtual 173, 3) := by decide +kernel
theorem dX4_playedBy_18 : decode cX4_playedBy 18 = .ok (.ireturn, 1) := by decide +kernel
set_option maxRecDepth 20000 in
theorem ggX4_holdingFor_X3_heldBy : GoodIn wsX4_holdingFor wsX3_heldBy := goodIn_r _ [8, 9, 10, 11, 12, 13, 14, 15, 16, 65, 66, 67, 68, 69, 70, 71, 72, 73, 74, 75, 76] (by decide +kernel) (by decide +kernel)
set_option maxRecDepth 20000 in
theorem gX4_holdingFor_X3_heldBy : GoodIn wsX4_holdingFor (wsV RX4 83 RX3 yX3_heldBy wsX3_heldBy) := goodIn_app (goodIn_of _ (by decide +kernel)) ggX4_holdingFor_X3_heldBy
set_option maxRecDepth 20000 in
theorem ggX4_holdingFor_X3_piecesLentTo : GoodIn wsX4_holdingFor wsX3_piecesLentTo := goodIn_r _ [20, 9, 21, 22, 11, 12, 13, 14, 15, 16, 65, 66, 67, 68, 69, 70, 71, 72, 73, 74, 75, 76] (by decide +kernel) (by decide +kernel)
set_option maxRecDepth 20000 in
theorem gX4_holdingFor_X3_piecesLentTo : GoodIn wsX4_holdingFor (wsV RX4 185 RX3 yX3_piecesLentTo wsX3_piecesLentTo) := goodIn_app (goodIn_of _ (by decide +kernel)) ggX4_holdingFor_X3_piecesLentTo
set_option maxRecDepth 20000 in
theorem ggX4_holdingFor_X4_playedBy : GoodIn wsX4_holdingFor wsX4_playedBy := goodIn_r _ [27, 1, 4, 5, 6, 7, 8, 9, 10, 11, 12, 13, 14, 15, 16, 28, 53, 54, 55, 65, 66, 67, 68, 69, 70, 71, 72, 73, 74, 75, 76] (by decide +kernel) (by decide +kernel)
set_option maxRecDepth 20000 in
theorem gX4_holdingFor_X4_playedBy : GoodIn wsX4_holdingFor (wsV RX4 154 RX4 yX4_playedBy wsX4_playedBy) := goodIn_app (goodIn_of _ (by decide +kernel)) ggX4_holdingFor_X4_playedBy
set_option maxRecDepth 20000 in
theorem ggX4_holdingFor_X2_at : GoodIn wsX4_holdingFor wsX2_at := goodIn_r _ [15, 16, 76] (by decide +kernel) (by decide +kernel)
set_option maxRecDepth 20000 in
theorem gX4_holdingFor_X2_at : GoodIn wsX4_holdingFor (wsV RX4 173 RX2 yX2_at wsX2_at) := goodIn_app (goodIn_of _ (by decide +kernel)) ggX4_holdingFor_X2_at
set_option maxRecDepth 20000 in
theorem ggX4_holdingFor_X0_minutesLeft : GoodIn wsX4_holdingFor wsX0_minutesLeft := goodIn_r _ [33, 34, 35, 36, 37, 38, 39, 40, 12, 13, 14, 15, 16, 56, 57, 58, 59, 60, 61, 62, 63, 64, 76] (by decide +kernel) (by decide +kernel)
set_option maxRecDepth 20000 in
theorem gX4_holdingFor_X0_minutesLeft : GoodIn wsX4_holdingFor (wsV RX4 112 RX0 yX0_minutesLeft wsX0_minutesLeft) := goodIn_app (goodIn_of _ (by decide +kernel)) ggX4_holdingFor_X0_minutesLeft
set_option maxRecDepth 20000 in
theorem ggX4_holdingFor_X1_holding : GoodIn wsX4_holdingFor wsX1_holding := goodIn_r _ [45, 46, 47, 48, 49, 12, 13, 14, 15, 16, 50, 51, 44, 52, 77, 78, 79, 80, 81, 76] (by decide +kernel) (by decide +kernel)
set_option maxRecDepth 20000 in
theorem gX4_holdingFor_X1_holding : GoodIn wsX4_holdingFor (wsV RX4 188 RX1 yX1_holding wsX1_holding) := goodIn_app (goodIn_of _ (by decide +kernel)) ggX4_holdingFor_X1_holding
theorem dX4_holdingFor_0 : decode cX4_holdingFor 0 = .ok (.aload_n 0, 1) := by decide +kernel
theorem dX4_holdingFor_1 : decode cX4_holdingFor 1 = .ok (.getfield 19, 3) := by decide +kernel
theorem dX4_holdingFor_4 : decode cX4_holdingFor 4 = .ok (.aload_n 0, 1) := by decide +kernel
theorem dX4_holdingFor_5 : decode cX4_holdingFor 5 = .ok (.getfield 19, 3) := by decide +kernel
theorem dX4_holdingFor_8 : decode cX4_holdingFor 8 = .ok (.iload_n 1, 1) := by decide +kernel
theorem dX4_holdingFor_9 : decode cX4_holdingFor 9 = .ok (.invokevirtual 83, 3) := by decide +kernel
theorem dX4_holdingFor_12 : decode cX4_holdingFor 12 = .ok (.invokevirtual 185, 3) := by decide +kernel
theorem dX4_holdingFor_15 : decode cX4_holdingFor 15 = .ok (.istore_n 2, 1) := by decide +kernel
theorem dX4_holdingFor_16 : decode cX4_holdingFor 16 = .ok (.aload_n 0, 1) := by decide +kernel
theorem dX4_holdingFor_17 : decode cX4_holdingFor 17 = .ok (.getfield 26, 3) := by decide +kernel
theorem dX4_holdingFor_20 : decode cX4_holdingFor 20 = .ok (.aload_n 0, 1) := by decide +kernel
theorem dX4_holdingFor_21 : decode cX4_holdingFor 21 = .ok (.iload_n 1, 1) := by decide +kernel
theorem dX4_holdingFor_22 : decode cX4_holdingFor 22 = .ok (.invokevirtual 154, 3) := by decide +kernel
theorem dX4_holdingFor_25 : decode cX4_holdingFor 25 = .ok (.aload_n 0, 1) := by decide +kernel
theorem dX4_holdingFor_26 : decode cX4_holdingFor 26 = .ok (.getfield 10, 3) := by decide +kernel
theorem dX4_holdingFor_29 : decode cX4_holdingFor 29 = .ok (.getfield 169, 3) := by decide +kernel
theorem dX4_holdingFor_32 : decode cX4_holdingFor 32 = .ok (.iload_n 1, 1) := by decide +kernel
theorem dX4_holdingFor_33 : decode cX4_holdingFor 33 = .ok (.invokevirtual 173, 3) := by decide +kernel
theorem dX4_holdingFor_36 : decode cX4_holdingFor 36 = .ok (.aload_n 0, 1) := by decide +kernel
theorem dX4_holdingFor_37 : decode cX4_holdingFor 37 = .ok (.getfield 10, 3) := by decide +kernel
theorem dX4_holdingFor_40 : decode cX4_holdingFor 40 = .ok (.iload_n 1, 1) := by decide +kernel
theorem dX4_holdingFor_41 : decode cX4_holdingFor 41 = .ok (.invokevirtual 112, 3) := by decide +kernel
theorem dX4_holdingFor_44 : decode cX4_holdingFor 44 = .ok (.iload_n 2, 1) := by decide +kernel
theorem dX4_holdingFor_45 : decode cX4_holdingFor 45 = .ok (.invokevirtual 188, 3) := by decide +kernel
theorem dX4_holdingFor_48 : decode cX4_holdingFor 48 = .ok (.ireturn, 1) := by decide +kernel
theorem dX4_checkIndex_0 : decode cX4_checkIndex 0 = .ok (.iload_n 0, 1) := by decide +kernel
theorem dX4_checkIndex_1 : decode cX4_checkIndex 1 = .ok (.ifCond .lt 8, 3) := by decide +kernel
theorem dX4_checkIndex_4 : decode cX4_checkIndex 4 = .ok (.iload_n 0, 1) := by decide +kernel
theorem dX4_checkIndex_5 : decode cX4_checkIndex 5 = .ok (.iload_n 1, 1) := by decide +kernel
theorem dX4_checkIndex_6 : decode cX4_checkIndex 6 = .ok (.if_icmp .lt 13, 3) := by decide +kernel
theorem dX4_checkIndex_9 : decode cX4_checkIndex 9 = .ok (.new 192, 3) := by decide +kernel
theorem dX4_checkIndex_12 : decode cX4_checkIndex 12 = .ok (.dup, 1) := by decide +kernel
theorem dX4_checkIndex_13 : decode cX4_checkIndex 13 = .ok (.ldc 194, 2) := by decide +kernel
theorem dX4_checkIndex_15 : decode cX4_checkIndex 15 = .ok (.invokespecial 196, 3) := by decide +kernel
theorem dX4_checkIndex_18 : decode cX4_checkIndex 18 = .ok (.athrow, 1) := by decide +kernel
theorem dX4_checkIndex_19 : decode cX4_checkIndex 19 = .ok (.return_, 1) := by decide +kernel
theorem dX4_checkRange_0 : decode cX4_checkRange 0 = .ok (.iload_n 0, 1) := by decide +kernel
theorem dX4_checkRange_1 : decode cX4_checkRange 1 = .ok (.iload_n 1, 1) := by decide +kernel
theorem dX4_checkRange_2 : decode cX4_checkRange 2 = .ok (.if_icmp .lt 8, 3) := by decide +kernel
theorem dX4_checkRange_5 : decode cX4_checkRange 5 = .ok (.iload_n 0, 1) := by decide +kernel
theorem dX4_checkRange_6 : decode cX4_checkRange 6 = .ok (.iload_n 2, 1) := by decide +kernel
theorem dX4_checkRange_7 : decode cX4_checkRange 7 = .ok (.if_icmp .le 13, 3) := by decide +kernel
theorem dX4_checkRange_10 : decode cX4_checkRange 10 = .ok (.new 199, 3) := by decide +kernel
theorem dX4_checkRange_13 : decode cX4_checkRange 13 = .ok (.dup, 1) := by decide +kernel
theorem dX4_checkRange_14 : decode cX4_checkRange 14 = .ok (.ldc 201, 2) := by decide +kernel
theorem dX4_checkRange_16 : decode cX4_checkRange 16 = .ok (.invokespecial 203, 3) := by decide +kernel
theorem dX4_checkRange_19 : decode cX4_checkRange 19 = .ok (.athrow, 1) := by decide +kernel
theorem dX4_checkRange_20 : decode cX4_checkRange 20 = .ok (.return_, 1) := by decide +kernel
theorem dX4_checkState_0 : decode cX4_checkState 0 = .ok (.iload_n 0, 1) := by decide +kernel
theorem dX4_checkState_1 : decode cX4_checkState 1 = .ok (.ifCond .ne 13, 3) := by decide +kernel
theorem dX4_checkState_4 : decode cX4_checkState 4 = .ok (.new 204, 3) := by decide +kernel
theorem dX4_checkState_7 : decode cX4_checkState 7 = .ok (.dup, 1) := by decide +kernel
theorem dX4_checkState_8 : decode cX4_checkState 8 = .ok (.ldc 206, 2) := by decide +kernel
theorem dX4_checkState_10 : decode cX4_checkState 10 = .ok (.invokespecial 208, 3) := by decide +kernel
theorem dX4_checkState_13 : decode cX4_checkState 13 = .ok (.athrow, 1) := by decide +kernel
theorem dX4_checkState_14 : decode cX4_checkState 14 = .ok (.return_, 1) := by decide +kernel
theorem dX4_contains_0 : decode cX4_contains 0 = .ok (.iload_n 0, 1) := by decide +kernel
theorem dX4_contains_1 : decode cX4_contains 1 = .ok (.iload_n 1, 1) := by decide +kernel
theorem dX4_contains_2 : decode cX4_contains 2 = .ok (.ishr, 1) := by decide +kernel
theorem dX4_contains_3 : decode cX4_contains 3 = .ok (.iconst 1, 1) := by decide +kernel
theorem dX4_contains_4 : decode cX4_contains 4 = .ok (.iand, 1) := by decide +kernel
theorem dX4_contains_5 : decode cX4_contains 5 = .ok (.ifCond .eq 7, 3) := by decide +kernel
theorem dX4_contains_8 : decode cX4_contains 8 = .ok (.iconst 1, 1) := by decide +kernel
theorem dX4_contains_9 : decode cX4_contains 9 = .ok (.goto 4, 3) := by decide +kernel
theorem dX4_contains_12 : decode cX4_contains 12 = .ok (.iconst 0, 1) := by decide +kernel
theorem dX4_contains_13 : decode cX4_contains 13 = .ok (.ireturn, 1) := by decide +kernel
theorem dX5_init_0 : decode cX5_init 0 = .ok (.aload_n 0, 1) := by decide +kernel
theorem dX5_init_1 : decode cX5_init 1 = .ok (.invokespecial 1, 3) := by decide +kernel
theorem dX5_init_4 : decode cX5_init 4 = .ok (.aload_n 0, 1) := by decide +kernel
theorem dX5_init_5 : decode cX5_init 5 = .ok (.bipush 10, 2) := by decide +kernel
theorem dX5_init_7 : decode cX5_init 7 = .ok (.newarray .int, 2) := by decide +kernel
theorem dX5_init_9 : decode cX5_init 9 = .ok (.putfield 7, 3) := by decide +kernel
theorem dX5_init_12 : decode cX5_init 12 = .ok (.aload_n 0, 1) := by decide +kernel
theorem dX5_init_13 : decode cX5_init 13 = .ok (.bipush 10, 2) := by decide +kernel
theorem dX5_init_15 : decode cX5_init 15 = .ok (.newarray .int, 2) := by decide +kernel
theorem dX5_init_17 : decode cX5_init 17 = .ok (.putfield 13, 3) := by decide +kernel
theorem dX5_init_20 : decode cX5_init 20 = .ok (.aload_n 0, 1) := by decide +kernel
theorem dX5_init_21 : decode cX5_init 21 = .ok (.bipush 30, 2) := by decide +kernel
theorem dX5_init_23 : decode cX5_init 23 = .ok (.newarray .int, 2) := by decide +kernel
theorem dX5_init_25 : decode cX5_init 25 = .ok (.putfield 16, 3) := by decide +kernel
theorem dX5_init_28 : decode cX5_init 28 = .ok (.aload_n 0, 1) := by decide +kernel
theorem dX5_init_29 : decode cX5_init 29 = .ok (.bipush 30, 2) := by decide +kernel
theorem dX5_init_31 : decode cX5_init 31 = .ok (.newarray .int, 2) := by decide +kernel
theorem dX5_init_33 : decode cX5_init 33 = .ok (.putfield 19, 3) := by decide +kernel
theorem dX5_init_36 : decode cX5_init 36 = .ok (.aload_n 0, 1) := by decide +kernel
theorem dX5_init_37 : decode cX5_init 37 = .ok (.bipush 30, 2) := by decide +kernel
theorem dX5_init_39 : decode cX5_init 39 = .ok (.newarray .int, 2) := by decide +kernel
theorem dX5_init_41 : decode cX5_init 41 = .ok (.putfield 22, 3) := by decide +kernel
theorem dX5_init_44 : decode cX5_init 44 = .ok (.aload_n 0, 1) := by decide +kernel
theorem dX5_init_45 : decode cX5_init 45 = .ok (.bipush 30, 2) := by decide +kernel
theorem dX5_init_47 : decode cX5_init 47 = .ok (.newarray .int, 2) := by decide +kernel
theorem dX5_init_49 : decode cX5_init 49 = .ok (.putfield 25, 3) := by decide +kernel
theorem dX5_init_52 : decode cX5_init 52 = .ok (.aload_n 0, 1) := by decide +kernel
theorem dX5_init_53 : decode cX5_init 53 = .ok (.bipush 30, 2) := by decide +kernel
theorem dX5_init_55 : decode cX5_init 55 = .ok (.newarray .int, 2) := by decide +kernel
theorem dX5_init_57 : decode cX5_init 57 = .ok (.putfield 28, 3) := by decide +kernel
theorem dX5_init_60 : decode cX5_init 60 = .ok (.aload_n 0, 1) := by decide +kernel
theorem dX5_init_61 : decode cX5_init 61 = .ok (.bipush 8, 2) := by decide +kernel
theorem dX5_init_63 : decode cX5_init 63 = .ok (.newarray .int, 2) := by decide +kernel
theorem dX5_init_65 : decode cX5_init 65 = .ok (.putfield 31, 3) := by decide +kernel
theorem dX5_init_68 : decode cX5_init 68 = .ok (.aload_n 0, 1) := by decide +kernel
theorem dX5_init_69 : decode cX5_init 69 = .ok (.bipush 8, 2) := by decide +kernel
theorem dX5_init_71 : decode cX5_init 71 = .ok (.newarray .int, 2) := by decide +kernel
theorem dX5_init_73 : decode cX5_init 73 = .ok (.putfield 34, 3) := by decide +kernel
theorem dX5_init_76 : decode cX5_init 76 = .ok (.aload_n 0, 1) := by decide +kernel
theorem dX5_init_77 : decode cX5_init 77 = .ok (.bipush 8, 2) := by decide +kernel
theorem dX5_init_79 : decode cX5_init 79 = .ok (.newarray .int, 2) := by decide +kernel
theorem dX5_init_81 : decode cX5_init 81 = .ok (.putfield 37, 3) := by decide +kernel
theorem dX5_init_84 : decode cX5_init 84 = .ok (.aload_n 0, 1) := by decide +kernel
theorem dX5_init_85 : decode cX5_init 85 = .ok (.bipush 32, 2) := by decide +kernel
theorem dX5_init_87 : decode cX5_init 87 = .ok (.newarray .int, 2) := by decide +kernel
theorem dX5_init_89 : decode cX5_init 89 = .ok (.putfield 40, 3) := by decide +kernel
theorem dX5_init_92 : decode cX5_init 92 = .ok (.aload_n 0, 1) := by decide +kernel
theorem dX5_init_93 : decode cX5_init 93 = .ok (.bipush 16, 2) := by decide +kernel
theorem dX5_init_95 : decode cX5_init 95 = .ok (.newarray .int, 2) := by decide +kernel
theorem dX5_init_97 : decode cX5_init 97 = .ok (.putfield 43, 3) := by decide +kernel
theorem dX5_init_100 : decode cX5_init 100 = .ok (.aload_n 0, 1) := by decide +kernel
theorem dX5_init_101 : decode cX5_init 101 = .ok (.bipush 16, 2) := by decide +kernel
theorem dX5_init_103 : decode cX5_init 103 = .ok (.newarray .int, 2) := by decide +kernel
theorem dX5_init_105 : decode cX5_init 105 = .ok (.putfield 46, 3) := by decide +kernel
theorem dX5_init_108 : decode cX5_init 108 = .ok (.aload_n 0, 1) := by decide +kernel
theorem dX5_init_109 : decode cX5_init 109 = .ok (.bipush 64, 2) := by decide +kernel
theorem dX5_init_111 : decode cX5_init 111 = .ok (.newarray .int, 2) := by decide +kernel
theorem dX5_init_113 : decode cX5_init 113 = .ok (.putfield 49, 3) := by decide +kernel
theorem dX5_init_116 : decode cX5_init 116 = .ok (.aload_n 0, 1) := by decide +kernel
theorem dX5_init_117 : decode cX5_init 117 = .ok (.bipush 64, 2) := by decide +kernel
theorem dX5_init_119 : decode cX5_init 119 = .ok (.newarray .int, 2) := by decide +kernel
theorem dX5_init_121 : decode cX5_init 121 = .ok (.putfield 52, 3) := by decide +kernel
theorem dX5_init_124 : decode cX5_init 124 = .ok (.aload_n 0, 1) := by decide +kernel
theorem dX5_init_125 : decode cX5_init 125 = .ok (.bipush 64, 2) := by decide +kernel
theorem dX5_init_127 : decode cX5_init 127 = .ok (.newarray .int, 2) := by decide +kernel
theorem dX5_init_129 : decode cX5_init 129 = .ok (.putfield 55, 3) := by decide +kernel
theorem dX5_init_132 : decode cX5_init 132 = .ok (.aload_n 0, 1) := by decide +kernel
theorem dX5_init_133 : decode cX5_init 133 = .ok (.bipush 64, 2) := by decide +kernel
theorem dX5_init_135 : decode cX5_init 135 = .ok (.newarray .int, 2) := by decide +kernel
theorem dX5_init_137 : decode cX5_init 137 = .ok (.putfield 58, 3) := by decide +kernel
theorem dX5_init_140 : decode cX5_init 140 = .ok (.aload_n 0, 1) := by decide +kernel
theorem dX5_init_141 : decode cX5_init 141 = .ok (.bipush 64, 2) := by decide +kernel
theorem dX5_init_143 : decode cX5_init 143 = .ok (.newarray .int, 2) := by decide +kernel
theorem dX5_init_145 : decode cX5_init 145 = .ok (.putfield 61, 3) := by decide +kernel
theorem dX5_init_148 : decode cX5_init 148 = .ok (.aload_n 0, 1) := by decide +kernel
theorem dX5_init_149 : decode cX5_init 149 = .ok (.bipush 96, 2) := by decide +kernel
theorem dX5_init_151 : decode cX5_init 151 = .ok (.newarray .int, 2) := by decide +kernel
theorem dX5_init_153 : decode cX5_init 153 = .ok (.putfield 64, 3) := by decide +kernel
theorem dX5_init_156 : decode cX5_init 156 = .ok (.aload_n 0, 1) := by decide +kernel
theorem dX5_init_157 : decode cX5_init 157 = .ok (.bipush 96, 2) := by decide +kernel
theorem dX5_init_159 : decode cX5_init 159 = .ok (.newarray .int, 2) := by decide +kernel
theorem dX5_init_161 : decode cX5_init 161 = .ok (.putfield 67, 3) := by decide +kernel
theorem dX5_init_164 : decode cX5_init 164 = .ok (.aload_n 0, 1) := by decide +kernel
theorem dX5_init_165 : decode cX5_init 165 = .ok (.bipush 96, 2) := by decide +kernel
theorem dX5_init_167 : decode cX5_init 167 = .ok (.newarray .int, 2) := by decide +kernel
theorem dX5_init_169 : decode cX5_init 169 = .ok (.putfield 70, 3) := by decide +kernel
theorem dX5_init_172 : decode cX5_init 172 = .ok (.aload_n 0, 1) := by decide +kernel
theorem dX5_init_173 : decode cX5_init 173 = .ok (.bipush 96, 2) := by decide +kernel
theorem dX5_init_175 : decode cX5_init 175 = .ok (.newarray .int, 2) := by decide +kernel
theorem dX5_init_177 : decode cX5_init 177 = .ok (.putfield 73, 3) := by decide +kernel
theorem dX5_init_180 : decode cX5_init 180 = .ok (.aload_n 0, 1) := by decide +kernel
theorem dX5_init_181 : decode cX5_init 181 = .ok (.bipush 8, 2) := by decide +kernel
theorem dX5_init_183 : decode cX5_init 183 = .ok (.newarray .int, 2) := by decide +kernel
theorem dX5_init_185 : decode cX5_init 185 = .ok (.putfield 76, 3) := by decide +kernel
theorem dX5_init_188 : decode cX5_init 188 = .ok (.return_, 1) := by decide +kernel
theorem dX5_thrown_0 : decode cX5_thrown 0 = .ok (.aload_n 0, 1) := by decide +kernel
theorem dX5_thrown_1 : decode cX5_thrown 1 = .ok (.getfield 79, 3) := by decide +kernel
theorem dX5_thrown_4 : decode cX5_thrown 4 = .ok (.ireturn, 1) := by decide +kernel
theorem dX5_isFine_0 : decode cX5_isFine 0 = .ok (.aload_n 0, 1) := by decide +kernel
theorem dX5_isFine_1 : decode cX5_isFine 1 = .ok (.iload_n 1, 1) := by decide +kernel
theorem dX5_isFine_2 : decode cX5_isFine 2 = .ok (.putfield 79, 3) := by decide +kernel
theorem dX5_isFine_5 : decode cX5_isFine 5 = .ok (.iload_n 1, 1) := by decide +kernel
theorem dX5_isFine_6 : decode cX5_isFine 6 = .ok (.ifCond .ne 7, 3) := by decide +kernel
theorem dX5_isFine_9 : decode cX5_isFine 9 = .ok (.iconst 1, 1) := by decide +kernel
theorem dX5_isFine_10 : decode cX5_isFine 10 = .ok (.goto 4, 3) := by decide +kernel
theorem dX5_isFine_13 : decode cX5_isFine 13 = .ok (.iconst 0, 1) := by decide +kernel
theorem dX5_isFine_14 : decode cX5_isFine 14 = .ok (.ireturn, 1) := by decide +kernel
theorem dX5_isIn_0 : decode cX5_isIn 0 = .ok (.iload_n 0, 1) := by decide +kernel
theorem dX5_isIn_1 : decode cX5_isIn 1 = .ok (.iload_n 1, 1) := by decide +kernel
theorem dX5_isIn_2 : decode cX5_isIn 2 = .ok (.if_icmp .lt 12, 3) := by decide +kernel
theorem dX5_isIn_5 : decode cX5_isIn 5 = .ok (.iload_n 0, 1) := by decide +kernel
theorem dX5_isIn_6 : decode cX5_isIn 6 = .ok (.iload_n 2, 1) := by decide +kernel
theorem dX5_isIn_7 : decode cX5_isIn 7 = .ok (.if_icmp .gt 7, 3) := by decide +kernel
theorem dX5_isIn_10 : decode cX5_isIn 10 = .ok (.iconst 1, 1) := by decide +kernel
theorem dX5_isIn_11 : decode cX5_isIn 11 = .ok (.goto 4, 3) := by decide +kernel
theorem dX5_isIn_14 : decode cX5_isIn 14 = .ok (.iconst 0, 1) := by decide +kernel
theorem dX5_isIn_15 : decode cX5_isIn 15 = .ok (.ireturn, 1) := by decide +kernel
set_option maxRecDepth 20000 in
theorem ggX5_isTitle_X5_isIn : GoodIn wsX5_isTitle wsX5_isIn := goodIn_r _ [5] (by decide +kernel) (by decide +kernel)
set_option maxRecDepth 20000 in
theorem gX5_isTitle_X5_isIn : GoodIn wsX5_isTitle (va_wsS RX5 86 yX5_isIn wsX5_isIn) := goodIn_app (goodIn_of _ (by decide +kernel)) ggX5_isTitle_X5_isIn
theorem dX5_isTitle_0 : decode cX5_isTitle 0 = .ok (.iload_n 1, 1) := by decide +kernel
theorem dX5_isTitle_1 : decode cX5_isTitle 1 = .ok (.iconst 0, 1) := by decide +kernel
theorem dX5_isTitle_2 : decode cX5_isTitle 2 = .ok (.aload_n 0, 1) := by decide +kernel
theorem dX5_isTitle_3 : decode cX5_isTitle 3 = .ok (.getfield 83, 3) := by decide +kernel
theorem dX5_isTitle_6 : decode cX5_isTitle 6 = .ok (.iconst 1, 1) := by decide +kernel
theorem dX5_isTitle_7 : decode cX5_isTitle 7 = .ok (.isub, 1) := by decide +kernel
theorem dX5_isTitle_8 : decode cX5_isTitle 8 = .ok (.invokestatic 86, 3) := by decide +kernel
theorem dX5_isTitle_11 : decode cX5_isTitle 11 = .ok (.ireturn, 1) := by decide +kernel
set_option maxRecDepth 20000 in
theorem ggX5_isCopy_X5_isIn : GoodIn wsX5_isCopy wsX5_isIn := goodIn_r _ [5] (by decide +kernel) (by decide +kernel)
set_option maxRecDepth 20000 in
theorem gX5_isCopy_X5_isIn : GoodIn wsX5_isCopy (va_wsS RX5 86 yX5_isIn wsX5_isIn) := goodIn_app (goodIn_of _ (by decide +kernel)) ggX5_isCopy_X5_isIn
theorem dX5_isCopy_0 : decode cX5_isCopy 0 = .ok (.iload_n 1, 1) := by decide +kernel
theorem dX5_isCopy_1 : decode cX5_isCopy 1 = .ok (.iconst 0, 1) := by decide +kernel
theorem dX5_isCopy_2 : decode cX5_isCopy 2 = .ok (.aload_n 0, 1) := by decide +kernel
theorem dX5_isCopy_3 : decode cX5_isCopy 3 = .ok (.getfield 90, 3) := by decide +kernel
theorem dX5_isCopy_6 : decode cX5_isCopy 6 = .ok (.iconst 1, 1) := by decide +kernel
theorem dX5_isCopy_7 : decode cX5_isCopy 7 = .ok (.isub, 1) := by decide +kernel
theorem dX5_isCopy_8 : decode cX5_isCopy 8 = .ok (.invokestatic 86, 3) := by decide +kernel
theorem dX5_isCopy_11 : decode cX5_isCopy 11 = .ok (.ireturn, 1) := by decide +kernel
set_option maxRecDepth 20000 in
theorem ggX5_isKind_X5_isIn : GoodIn wsX5_isKind wsX5_isIn := goodIn_r _ [4] (by decide +kernel) (by decide +kernel)
set_option maxRecDepth 20000 in
theorem gX5_isKind_X5_isIn : GoodIn wsX5_isKind (va_wsS RX5 86 yX5_isIn wsX5_isIn) := goodIn_app (goodIn_of _ (by decide +kernel)) ggX5_isKind_X5_isIn
theorem dX5_isKind_0 : decode cX5_isKind 0 = .ok (.iload_n 0, 1) := by decide +kernel
theorem dX5_isKind_1 : decode cX5_isKind 1 = .ok (.iconst 0, 1) := by decide +kernel
theorem dX5_isKind_2 : decode cX5_isKind 2 = .ok (.iconst 3, 1) := by decide +kernel
theorem dX5_isKind_3 : decode cX5_isKind 3 = .ok (.invokestatic 86, 3) := by decide +kernel
theorem dX5_isKind_6 : decode cX5_isKind 6 = .ok (.ireturn, 1) := by decide +kernel
set_option maxRecDepth 20000 in
theorem ggX5_isGroup_X5_isIn : GoodIn wsX5_isGroup wsX5_isIn := goodIn_r _ [5] (by decide +kernel) (by decide +kernel)
set_option maxRecDepth 20000 in
theorem gX5_isGroup_X5_isIn : GoodIn wsX5_isGroup (va_wsS RX5 86 yX5_isIn wsX5_isIn) := goodIn_app (goodIn_of _ (by decide +kernel)) ggX5_isGroup_X5_isIn
theorem dX5_isGroup_0 : decode cX5_isGroup 0 = .ok (.iload_n 1, 1) := by decide +kernel
theorem dX5_isGroup_1 : decode cX5_isGroup 1 = .ok (.iconst 0, 1) := by decide +kernel
theorem dX5_isGroup_2 : decode cX5_isGroup 2 = .ok (.aload_n 0, 1) := by decide +kernel
theorem dX5_isGroup_3 : decode cX5_isGroup 3 = .ok (.getfield 93, 3) := by decide +kernel
theorem dX5_isGroup_6 : decode cX5_isGroup 6 = .ok (.iconst 1, 1) := by decide +kernel
theorem dX5_isGroup_7 : decode cX5_isGroup 7 = .ok (.isub, 1) := by decide +kernel
theorem dX5_isGroup_8 : decode cX5_isGroup 8 = .ok (.invokestatic 86, 3) := by decide +kernel
theorem dX5_isGroup_11 : decode cX5_isGroup 11 = .ok (.ireturn, 1) := by decide +kernel
set_option maxRecDepth 20000 in
theorem ggX5_pass_X5_isIn : GoodIn wsX5_pass wsX5_isIn := goodIn_r _ [5] (by decide +kernel) (by decide +kernel)
set_option maxRecDepth 20000 in
theorem gX5_pass_X5_isIn : GoodIn wsX5_pass (va_wsS RX5 86 yX5_isIn wsX5_isIn) := goodIn_app (goodIn_of _ (by decide +kernel)) ggX5_pass_X5_isIn
set_option maxRecDepth 20000 in
theorem ggX5_pass_X5_isFine : GoodIn wsX5_pass wsX5_isFine := goodIn_r _ [9, 10, 11, 12, 13, 14, 15, 16, 17, 18, 19, 20, 21, 22, 23, 24, 25, 26, 27, 28, 29, 30, 31, 32, 33, 34, 35, 36, 37, 38, 39, 40, 41, 42, 43] (by decide +kernel) (by decide +kernel)
set_option maxRecDepth 20000 in
theorem gX5_pass_X5_isFine : GoodIn wsX5_pass (wsV RX5 99 RX5 yX5_isFine wsX5_isFine) := goodIn_app (goodIn_of _ (by decide +kernel)) ggX5_pass_X5_isFine
theorem dX5_pass_0 : decode cX5_pass 0 = .ok (.aload_n 0, 1) := by decide +kernel
theorem dX5_pass_1 : decode cX5_pass 1 = .ok (.iload_n 1, 1) := by decide +kernel
theorem dX5_pass_2 : decode cX5_pass 2 = .ok (.iconst 1, 1) := by decide +kernel
theorem dX5_pass_3 : decode cX5_pass 3 = .ok (.sipush 500, 3) := by decide +kernel
theorem dX5_pass_6 : decode cX5_pass 6 = .ok (.invokestatic 86, 3) := by decide +kernel
theorem dX5_pass_9 : decode cX5_pass 9 = .ok (.ifCond .ne 7, 3) := by decide +kernel
theorem dX5_pass_12 : decode cX5_pass 12 = .ok (.iconst 1, 1) := by decide +kernel
theorem dX5_pass_13 : decode cX5_pass 13 = .ok (.goto 20, 3) := by decide +kernel
theorem dX5_pass_16 : decode cX5_pass 16 = .ok (.aload_n 0, 1) := by decide +kernel
theorem dX5_pass_17 : decode cX5_pass 17 = .ok (.getfield 96, 3) := by decide +kernel
theorem dX5_pass_20 : decode cX5_pass 20 = .ok (.iload_n 1, 1) := by decide +kernel
theorem dX5_pass_21 : decode cX5_pass 21 = .ok (.iadd, 1) := by decide +kernel
theorem dX5_pass_22 : decode cX5_pass 22 = .ok (.sipush 20000, 3) := by decide +kernel
theorem dX5_pass_25 : decode cX5_pass 25 = .ok (.if_icmp .le 7, 3) := by decide +kernel
theorem dX5_pass_28 : decode cX5_pass 28 = .ok (.iconst 2, 1) := by decide +kernel
theorem dX5_pass_29 : decode cX5_pass 29 = .ok (.goto 4, 3) := by decide +kernel
theorem dX5_pass_32 : decode cX5_pass 32 = .ok (.iconst 0, 1) := by decide +kernel
theorem dX5_pass_33 : decode cX5_pass 33 = .ok (.invokevirtual 99, 3) := by decide +kernel
theorem dX5_pass_36 : decode cX5_pass 36 = .ok (.ifCond .ne 5, 3) := by decide +kernel
theorem dX5_pass_39 : decode cX5_pass 39 = .ok (.iconst 0, 1) := by decide +kernel
theorem dX5_pass_40 : decode cX5_pass 40 = .ok (.ireturn, 1) := by decide +kernel
theorem dX5_pass_41 : decode cX5_pass 41 = .ok (.aload_n 0, 1) := by decide +kernel
theorem dX5_pass_42 : decode cX5_pass 42 = .ok (.dup, 1) := by decide +kernel
theorem dX5_pass_43 : decode cX5_pass 43 = .ok (.getfield 96, 3) := by decide +kernel
theorem dX5_pass_46 : decode cX5_pass 46 = .ok (.iload_n 1, 1) := by decide +kernel
theorem dX5_pass_47 : decode cX5_pass 47 = .ok (.iadd, 1) := by decide +kernel
theorem dX5_pass_48 : decode cX5_pass 48 = .ok (.putfield 96, 3) := by decide +kernel
theorem dX5_pass_51 : decode cX5_pass 51 = .ok (.aload_n 0, 1) := by decide +kernel
theorem dX5_pass_52 : decode cX5_pass 52 = .ok (.getfield 96, 3) := by decide +kernel
theorem dX5_pass_55 : decode cX5_pass 55 = .ok (.ireturn, 1) := by decide +kernel
theorem dX5_now_0 : decode cX5_now 0 = .ok (.aload_n 0, 1) := by decide +kernel
theorem dX5_now_1 : decode cX5_now 1 = .ok (.iconst 0, 1) := by decide +kernel
theorem dX5_now_2 : decode cX5_now 2 = .ok (.putfield 79, 3) := by decide +kernel
theorem dX5_now_5 : decode cX5_now 5 = .ok (.aload_n 0, 1) := by decide +kernel
theorem dX5_now_6 : decode cX5_now 6 = .ok (.getfield 96, 3) := by decide +kernel
theorem dX5_now_9 : decode cX5_now 9 = .ok (.ireturn, 1) := by decide +kernel
set_option maxRecDepth 20000 in
theorem ggX5_addTable_X5_isIn : GoodIn wsX5_addTable wsX5_isIn := goodIn_r _ [7] (by decide +kernel) (by decide +kernel)
set_option maxRecDepth 20000 in
theorem gX5_addTable_X5_isIn : GoodIn wsX5_addTable (va_wsS RX5 86 yX5_isIn wsX5_isIn) := goodIn_app (goodIn_of _ (by decide +kernel)) ggX5_addTable_X5_isIn
set_option maxRecDepth 20000 in
theorem ggX5_addTable_X5_isFine : GoodIn wsX5_addTable wsX5_isFine := goodIn_r _ [11, 12, 13, 14, 15, 16, 17, 18, 19, 20, 21, 22, 23, 24, 25, 26, 27, 28, 29, 30, 31, 32, 33, 34, 35, 36, 37, 38, 39, 40, 41, 42, 43, 44, 45] (by decide +kernel) (by decide +kernel)
set_option maxRecDepth 20000 in
theorem gX5_addTable_X5_isFine : GoodIn wsX5_addTable (wsV RX5 99 RX5 yX5_isFine wsX5_isFine) := goodIn_app (goodIn_of _ (by decide +kernel)) ggX5_addTable_X5_isFine
theorem dX5_addTable_0 : decode cX5_addTable 0 = .ok (.aload_n 0, 1) := by decide +kernel
theorem dX5_addTable_1 : decode cX5_addTable 1 = .ok (.iload_n 1, 1) := by decide +kernel
theorem dX5_addTable_2 : decode cX5_addTable 2 = .ok (.iconst 2, 1) := by decide +kernel
theorem dX5_addTable_3 : decode cX5_addTable 3 = .ok (.bipush 6, 2) := by decide +kernel
theorem dX5_addTable_5 : decode cX5_addTable 5 = .ok (.invokestatic 86, 3) := by decide +kernel
theorem dX5_addTable_8 : decode cX5_addTable 8 = .ok (.ifCond .ne 7, 3) := by decide +kernel
theorem dX5_addTable_11 : decode cX5_addTable 11 = .ok (.iconst 1, 1) := by decide +kernel
theorem dX5_addTable_12 : decode cX5_addTable 12 = .ok (.goto 17, 3) := by decide +kernel
theorem dX5_addTable_15 : decode cX5_addTable 15 = .ok (.aload_n 0, 1) := by decide +kernel
theorem dX5_addTable_16 : decode cX5_addTable 16 = .ok (.getfield 103, 3) := by decide +kernel
theorem dX5_addTable_19 : decode cX5_addTable 19 = .ok (.bipush 10, 2) := by decide +kernel
theorem dX5_addTable_21 : decode cX5_addTable 21 = .ok (.if_icmp .ne 7, 3) := by decide +kernel
theorem dX5_addTable_24 : decode cX5_addTable 24 = .ok (.iconst 2, 1) := by decide +kernel
theorem dX5_addTable_25 : decode cX5_addTable 25 = .ok (.goto 4, 3) := by decide +kernel
theorem dX5_addTable_28 : decode cX5_addTable 28 = .ok (.iconst 0, 1) := by decide +kernel
theorem dX5_addTable_29 : decode cX5_addTable 29 = .ok (.invokevirtual 99, 3) := by decide +kernel
theorem dX5_addTable_32 : decode cX5_addTable 32 = .ok (.ifCond .ne 5, 3) := by decide +kernel
theorem dX5_addTable_35 : decode cX5_addTable 35 = .ok (.iconst 0, 1) := by decide +kernel
theorem dX5_addTable_36 : decode cX5_addTable 36 = .ok (.ireturn, 1) := by decide +kernel
theorem dX5_addTable_37 : decode cX5_addTable 37 = .ok (.aload_n 0, 1) := by decide +kernel
theorem dX5_addTable_38 : decode cX5_addTable 38 = .ok (.getfield 7, 3) := by decide +kernel
theorem dX5_addTable_41 : decode cX5_addTable 41 = .ok (.aload_n 0, 1) := by decide +kernel
theorem dX5_addTable_42 : decode cX5_addTable 42 = .ok (.getfield 103, 3) := by decide +kernel
theorem dX5_addTable_45 : decode cX5_addTable 45 = .ok (.iload_n 1, 1) := by decide +kernel
theorem dX5_addTable_46 : decode cX5_addTable 46 = .ok (.iastore, 1) := by decide +kernel
theorem dX5_addTable_47 : decode cX5_addTable 47 = .ok (.aload_n 0, 1) := by decide +kernel
theorem dX5_addTable_48 : decode cX5_addTable 48 = .ok (.getfield 13, 3) := by decide +kernel
theorem dX5_addTable_51 : decode cX5_addTable 51 = .ok (.aload_n 0, 1) := by decide +kernel
theorem dX5_addTable_52 : decode cX5_addTable 52 = .ok (.getfield 103, 3) := by decide +kernel
theorem dX5_addTable_55 : decode cX5_addTable 55 = .ok (.iconst (-1), 1) := by decide +kernel
theorem dX5_addTable_56 : decode cX5_addTable 56 = .ok (.iastore, 1) := by decide +kernel
theorem dX5_addTable_57 : decode cX5_addTable 57 = .ok (.aload_n 0, 1) := by decide +kernel
theorem dX5_addTable_58 : decode cX5_addTable 58 = .ok (.dup, 1) := by decide +kernel
theorem dX5_addTable_59 : decode cX5_addTable 59 = .ok (.getfield 103, 3) := by decide +kernel
theorem dX5_addTable_62 : decode cX5_addTable 62 = .ok (.iconst 1, 1) := by decide +kernel
theorem dX5_addTable_63 : decode cX5_addTable 63 = .ok (.iadd, 1) := by decide +kernel
theorem dX5_addTable_64 : decode cX5_addTable 64 = .ok (.putfield 103, 3) := by decide +kernel
theorem dX5_addTable_67 : decode cX5_addTable 67 = .ok (.aload_n 0, 1) := by decide +kernel
theorem dX5_addTable_68 : decode cX5_addTable 68 = .ok (.getfield 103, 3) := by decide +kernel
theorem dX5_addTable_71 : decode cX5_addTable 71 = .ok (.iconst 1, 1) := by decide +kernel
theorem dX5_addTable_72 : decode cX5_addTable 72 = .ok (.isub, 1) := by decide +kernel
theorem dX5_addTable_73 : decode cX5_addTable 73 = .ok (.ireturn, 1) := by decide +kernel
set_option maxRecDepth 20000 in
theorem ggX5_arePieces_X5_isIn : GoodIn wsX5_arePieces wsX5_isIn := goodIn_r _ [4] (by decide +kernel) (by decide +kernel)
set_option maxRecDepth 20000 in
theorem gX5_arePieces_X5_isIn : GoodIn wsX5_arePieces (va_wsS RX5 86 yX5_isIn wsX5_isIn) := goodIn_app (goodIn_of _ (by decide +kernel)) ggX5_arePieces_X5_isIn
theorem dX5_arePieces_0 : decode cX5_arePieces 0 = .ok (.iload_n 0, 1) := by decide +kernel
theorem dX5_arePieces_1 : decode cX5_arePieces 1 = .ok (.iconst 0, 1) := by decide +kernel
theorem dX5_arePieces_2 : decode cX5_arePieces 2 = .ok (.bipush 9, 2) := by decide +kernel
theorem dX5_arePieces_4 : decode cX5_arePieces 4 = .ok (.invokestatic 86, 3) := by decide +kernel
theorem dX5_arePieces_7 : decode cX5_arePieces 7 = .ok (.ireturn, 1) := by decide +kernel
set_option maxRecDepth 20000 in
theorem ggX5_addTitle_X5_isIn : GoodIn wsX5_addTitle wsX5_isIn := goodIn_r _ [9] (by decide +kernel) (by decide +kernel)
set_option maxRecDepth 20000 in
theorem gX5_addTitle_X5_isIn : GoodIn wsX5_addTitle (va_wsS RX5 86 yX5_isIn wsX5_isIn) := goodIn_app (goodIn_of _ (by decide +kernel)) ggX5_addTitle_X5_isIn
set_option maxRecDepth 20000 in
theorem ggX5_addTitle_X5_arePieces : GoodIn wsX5_addTitle wsX5_arePieces := goodIn_r _ [12, 6, 7, 8, 9] (by decide +kernel) (by decide +kernel)
set_option maxRecDepth 20000 in
theorem gX5_addTitle_X5_arePieces : GoodIn wsX5_addTitle (va_wsS RX5 106 yX5_arePieces wsX5_arePieces) := goodIn_app (goodIn_of _ (by decide +kernel)) ggX5_addTitle_X5_arePieces
set_option maxRecDepth 20000 in
theorem ggX5_addTitle_X5_isFine : GoodIn wsX5_addTitle wsX5_isFine := goodIn_r _ [16, 17, 18, 19, 20, 21, 22, 23, 24, 25, 26, 27, 28, 29, 30, 31, 32, 33, 34, 35, 36, 37, 38, 39, 40, 41, 42, 43, 44, 45, 46, 47, 48, 49, 50] (by decide +kernel) (by decide +kernel)
set_option maxRecDepth 20000 in
theorem gX5_addTitle_X5_isFine : GoodIn wsX5_addTitle (wsV RX5 99 RX5 yX5_isFine wsX5_isFine) := goodIn_app (goodIn_of _ (by decide +kernel)) ggX5_addTitle_X5_isFine
theorem dX5_addTitle_0 : decode cX5_addTitle 0 = .ok (.iload_n 1, 1) := by decide +kernel
theorem dX5_addTitle_1 : decode cX5_addTitle 1 = .ok (.iconst 1, 1) := by decide +kernel
theorem dX5_addTitle_2 : decode cX5_addTitle 2 = .ok (.bipush 12, 2) := by decide +kernel
theorem dX5_addTitle_4 : decode cX5_addTitle 4 = .ok (.invokestatic 86, 3) := by decide +kernel
theorem dX5_addTitle_7 : decode cX5_addTitle 7 = .ok (.ifCond .eq 28, 3) := by decide +kernel
theorem dX5_addTitle_10 : decode cX5_addTitle 10 = .ok (.iload_n 2, 1) := by decide +kernel
theorem dX5_addTitle_11 : decode cX5_addTitle 11 = .ok (.iload_n 1, 1) := by decide +kernel
theorem dX5_addTitle_12 : decode cX5_addTitle 12 = .ok (.bipush 12, 2) := by decide +kernel
theorem dX5_addTitle_14 : decode cX5_addTitle 14 = .ok (.invokestatic 86, 3) := by decide +kernel
theorem dX5_addTitle_17 : decode cX5_addTitle 17 = .ok (.ifCond .eq 18, 3) := by decide +kernel
theorem dX5_addTitle_20 : decode cX5_addTitle 20 = .ok (.iload_n 3, 1) := by decide +kernel
theorem dX5_addTitle_21 : decode cX5_addTitle 21 = .ok (.iconst 5, 1) := by decide +kernel
theorem dX5_addTitle_22 : decode cX5_addTitle 22 = .ok (.sipush 300, 3) := by decide +kernel
theorem dX5_addTitle_25 : decode cX5_addTitle 25 = .ok (.invokestatic 86, 3) := by decide +kernel
theorem dX5_addTitle_28 : decode cX5_addTitle 28 = .ok (.ifCond .eq 7, 3) := by decide +kernel
theorem dX5_addTitle_31 : decode cX5_addTitle 31 = .ok (.iconst 1, 1) := by decide +kernel
theorem dX5_addTitle_32 : decode cX5_addTitle 32 = .ok (.goto 4, 3) := by decide +kernel
theorem dX5_addTitle_35 : decode cX5_addTitle 35 = .ok (.iconst 0, 1) := by decide +kernel
theorem dX5_addTitle_36 : decode cX5_addTitle 36 = .ok (.istore 8, 2) := by decide +kernel
theorem dX5_addTitle_38 : decode cX5_addTitle 38 = .ok (.iload 8, 2) := by decide +kernel
theorem dX5_addTitle_40 : decode cX5_addTitle 40 = .ok (.ifCond .eq 39, 3) := by decide +kernel
theorem dX5_addTitle_43 : decode cX5_addTitle 43 = .ok (.iload 4, 2) := by decide +kernel
theorem dX5_addTitle_45 : decode cX5_addTitle 45 = .ok (.invokestatic 106, 3) := by decide +kernel
theorem dX5_addTitle_48 : decode cX5_addTitle 48 = .ok (.ifCond .eq 31, 3) := by decide +kernel
theorem dX5_addTitle_51 : decode cX5_addTitle 51 = .ok (.iload 5, 2) := by decide +kernel
theorem dX5_addTitle_53 : decode cX5_addTitle 53 = .ok (.invokestatic 106, 3) := by decide +kernel
theorem dX5_addTitle_56 : decode cX5_addTitle 56 = .ok (.ifCond .eq 23, 3) := by decide +kernel
theorem dX5_addTitle_59 : decode cX5_addTitle 59 = .ok (.iload 6, 2) := by decide +kernel
theorem dX5_addTitle_61 : decode cX5_addTitle 61 = .ok (.invokestatic 106, 3) := by decide +kernel
theorem dX5_addTitle_64 : decode cX5_addTitle 64 = .ok (.ifCond .eq 15, 3) := by decide +kernel
theorem dX5_addTitle_67 : decode cX5_addTitle 67 = .ok (.iload 7, 2) := by decide +kernel
theorem dX5_addTitle_69 : decode cX5_addTitle 69 = .ok (.invokestatic 106, 3) := by decide +kernel
theorem dX5_addTitle_72 : decode cX5_addTitle 72 = .ok (.ifCond .eq 7, 3) := by decide +kernel
theorem dX5_addTitle_75 : decode cX5_addTitle 75 = .ok (.iconst 1, 1) := by decide +kernel
theorem dX5_addTitle_76 : decode cX5_addTitle 76 = .ok (.goto 4, 3) := by decide +kernel
theorem dX5_addTitle_79 : decode cX5_addTitle 79 = .ok (.iconst 0, 1) := by decide +kernel
theorem dX5_addTitle_80 : decode cX5_addTitle 80 = .ok (.istore 8, 2) := by decide +kernel
theorem dX5_addTitle_82 : decode cX5_addTitle 82 = .ok (.aload_n 0, 1) := by decide +kernel
theorem dX5_addTitle_83 : decode cX5_addTitle 83 = .ok (.iload 8, 2) := by decide +kernel
theorem dX5_addTitle_85 : decode cX5_addTitle 85 = .ok (.ifCond .ne 7, 3) := by decide +kernel
theorem dX5_addTitle_88 : decode cX5_addTitle 88 = .ok (.iconst 1, 1) := by decide +kernel
theorem dX5_addTitle_89 : decode cX5_addTitle 89 = .ok (.goto 17, 3) := by decide +kernel
theorem dX5_addTitle_92 : decode cX5_addTitle 92 = .ok (.aload_n 0, 1) := by decide +kernel
theorem dX5_addTitle_93 : decode cX5_addTitle 93 = .ok (.getfield 83, 3) := by decide +kernel
theorem dX5_addTitle_96 : decode cX5_addTitle 96 = .ok (.bipush 8, 2) := by decide +kernel
theorem dX5_addTitle_98 : decode cX5_addTitle 98 = .ok (.if_icmp .ne 7, 3) := by decide +kernel
theorem dX5_addTitle_101 : decode cX5_addTitle 101 = .ok (.iconst 2, 1) := by decide +kernel
theorem dX5_addTitle_102 : decode cX5_addTitle 102 = .ok (.goto 4, 3) := by decide +kernel
theorem dX5_addTitle_105 : decode cX5_addTitle 105 = .ok (.iconst 0, 1) := by decide +kernel
theorem dX5_addTitle_106 : decode cX5_addTitle 106 = .ok (.invokevirtual 99, 3) := by decide +kernel
theorem dX5_addTitle_109 : decode cX5_addTitle 109 = .ok (.ifCond .ne 5, 3) := by decide +kernel
theorem dX5_addTitle_112 : decode cX5_addTitle 112 = .ok (.iconst 0, 1) := by decide +kernel
theorem dX5_addTitle_113 : decode cX5_addTitle 113 = .ok (.ireturn, 1) := by decide +kernel
theorem dX5_addTitle_114 : decode cX5_addTitle 114 = .ok (.aload_n 0, 1) := by decide +kernel
theorem dX5_addTitle_115 : decode cX5_addTitle 115 = .ok (.getfield 31, 3) := by decide +kernel
theorem dX5_addTitle_118 : decode cX5_addTitle 118 = .ok (.aload_n 0, 1) := by decide +kernel
theorem dX5_addTitle_119 : decode cX5_addTitle 119 = .ok (.getfield 83, 3) := by decide +kernel
theorem dX5_addTitle_122 : decode cX5_addTitle 122 = .ok (.iload_n 1, 1) := by decide +kernel
theorem dX5_addTitle_123 : decode cX5_addTitle 123 = .ok (.iastore, 1) := by decide +kernel
theorem dX5_addTitle_124 : decode cX5_addTitle 124 = .ok (.aload_n 0, 1) := by decide +kernel
theorem dX5_addTitle_125 : decode cX5_addTitle 125 = .ok (.getfield 34, 3) := by decide +kernel
theorem dX5_addTitle_128 : decode cX5_addTitle 128 = .ok (.aload_n 0, 1) := by decide +kernel
theorem dX5_addTitle_129 : decode cX5_addTitle 129 = .ok (.getfield 83, 3) := by decide +kernel
theorem dX5_addTitle_132 : decode cX5_addTitle 132 = .ok (.iload_n 2, 1) := by decide +kernel
theorem dX5_addTitle_133 : decode cX5_addTitle 133 = .ok (.iastore, 1) := by decide +kernel
theorem dX5_addTitle_134 : decode cX5_addTitle 134 = .ok (.aload_n 0, 1) := by decide +kernel
theorem dX5_addTitle_135 : decode cX5_addTitle 135 = .ok (.getfield 37, 3) := by decide +kernel
theorem dX5_addTitle_138 : decode cX5_addTitle 138 = .ok (.aload_n 0, 1) := by decide +kernel
theorem dX5_addTitle_139 : decode cX5_addTitle 139 = .ok (.getfield 83, 3) := by decide +kernel
theorem dX5_addTitle_142 : decode cX5_addTitle 142 = .ok (.iload_n 3, 1) := by decide +kernel
theorem dX5_addTitle_143 : decode cX5_addTitle 143 = .ok (.iastore, 1) := by decide +kernel
theorem dX5_addTitle_144 : decode cX5_addTitle 144 = .ok (.aload_n 0, 1) := by decide +kernel
theorem dX5_addTitle_145 : decode cX5_addTitle 145 = .ok (.getfield 40, 3) := by decide +kernel
theorem dX5_addTitle_148 : decode cX5_addTitle 148 = .ok (.iconst 4, 1) := by decide +kernel
theorem dX5_addTitle_149 : decode cX5_addTitle 149 = .ok (.aload_n 0, 1) := by decide +kernel
theorem dX5_addTitle_150 : decode cX5_addTitle 150 = .ok (.getfield 83, 3) := by decide +kernel
theorem dX5_addTitle_153 : decode cX5_addTitle 153 = .ok (.imul, 1) := by decide +kernel
theorem dX5_addTitle_154 : decode cX5_addTitle 154 = .ok (.iload 4, 2) := by decide +kernel
theorem dX5_addTitle_156 : decode cX5_addTitle 156 = .ok (.iastore, 1) := by decide +kernel
theorem dX5_addTitle_157 : decode cX5_addTitle 157 = .ok (.aload_n 0, 1) := by decide +kernel
theorem dX5_addTitle_158 : decode cX5_addTitle 158 = .ok (.getfield 40, 3) := by decide +kernel
theorem dX5_addTitle_161 : decode cX5_addTitle 161 = .ok (.iconst 4, 1) := by decide +kernel
theorem dX5_addTitle_162 : decode cX5_addTitle 162 = .ok (.aload_n 0, 1) := by decide +kernel
theorem dX5_addTitle_163 : decode cX5_addTitle 163 = .ok (.getfield 83, 3) := by decide +kernel
theorem dX5_addTitle_166 : decode cX5_addTitle 166 = .ok (.imul, 1) := by decide +kernel
theorem dX5_addTitle_167 : decode cX5_addTitle 167 = .ok (.iconst 1, 1) := by decide +kernel
theorem dX5_addTitle_168 : decode cX5_addTitle 168 = .ok (.iadd, 1) := by decide +kernel
theorem dX5_addTitle_169 : decode cX5_addTitle 169 = .ok (.iload 5, 2) := by decide +kernel
theorem dX5_addTitle_171 : decode cX5_addTitle 171 = .ok (.iastore, 1) := by decide +kernel
theorem dX5_addTitle_172 : decode cX5_addTitle 172 = .ok (.aload_n 0, 1) := by decide +kernel
theorem dX5_addTitle_173 : decode cX5_addTitle 173 = .ok (.getfield 40, 3) := by decide +kernel
theorem dX5_addTitle_176 : decode cX5_addTitle 176 = .ok (.iconst 4, 1) := by decide +kernel
theorem dX5_addTitle_177 : decode cX5_addTitle 177 = .ok (.aload_n 0, 1) := by decide +kernel
theorem dX5_addTitle_178 : decode cX5_addTitle 178 = .ok (.getfield 83, 3) := by decide +kernel
theorem dX5_addTitle_181 : decode cX5_addTitle 181 = .ok (.imul, 1) := by decide +kernel
theorem dX5_addTitle_182 : decode cX5_addTitle 182 = .ok (.iconst 2, 1) := by decide +kernel
theorem dX5_addTitle_183 : decode cX5_addTitle 183 = .ok (.iadd, 1) := by decide +kernel
theorem dX5_addTitle_184 : decode cX5_addTitle 184 = .ok (.iload 6, 2) := by decide +kernel
theorem dX5_addTitle_186 : decode cX5_addTitle 186 = .ok (.iastore, 1) := by decide +kernel
theorem dX5_addTitle_187 : decode cX5_addTitle 187 = .ok (.aload_n 0, 1) := by decide +kernel
theorem dX5_addTitle_188 : decode cX5_addTitle 188 = .ok (.getfield 40, 3) := by decide +kernel
theorem dX5_addTitle_191 : decode cX5_addTitle 191 = .ok (.iconst 4, 1) := by decide +kernel
theorem dX5_addTitle_192 : decode cX5_addTitle 192 = .ok (.aload_n 0, 1) := by decide +kernel
theorem dX5_addTitle_193 : decode cX5_addTitle 193 = .ok (.getfield 83, 3) := by decide +kernel
theorem dX5_addTitle_196 : decode cX5_addTitle 196 = .ok (.imul, 1) := by decide +kernel
theorem dX5_addTitle_197 : decode cX5_addTitle 197 = .ok (.iconst 3, 1) := by decide +kernel
theorem dX5_addTitle_198 : decode cX5_addTitle 198 = .ok (.iadd, 1) := by decide +kernel
theorem dX5_addTitle_199 : decode cX5_addTitle 199 = .ok (.iload 7, 2) := by decide +kernel
theorem dX5_addTitle_201 : decode cX5_addTitle 201 = .ok (.iastore, 1) := by decide +kernel
theorem dX5_addTitle_202 : decode cX5_addTitle 202 = .ok (.aload_n 0, 1) := by decide +kernel
theorem dX5_addTitle_203 : decode cX5_addTitle 203 = .ok (.dup, 1) := by decide +kernel
theorem dX5_addTitle_204 : decode cX5_addTitle 204 = .ok (.getfield 83, 3) := by decide +kernel
theorem dX5_addTitle_207 : decode cX5_addTitle 207 = .ok (.iconst 1, 1) := by decide +kernel
theorem dX5_addTitle_208 : decode cX5_addTitle 208 = .ok (.iadd, 1) := by decide +kernel
theorem dX5_addTitle_209 : decode cX5_addTitle 209 = .ok (.putfield 83, 3) := by decide +kernel
theorem dX5_addTitle_212 : decode cX5_addTitle 212 = .ok (.aload_n 0, 1) := by decide +kernel
theorem dX5_addTitle_213 : decode cX5_addTitle 213 = .ok (.getfield 83, 3) := by decide +kernel
theorem dX5_addTitle_216 : decode cX5_addTitle 216 = .ok (.iconst 1, 1) := by decide +kernel
theorem dX5_addTitle_217 : decode cX5_addTitle 217 = .ok (.isub, 1) := by decide +kernel
theorem dX5_addTitle_218 : decode cX5_addTitle 218 = .ok (.ireturn, 1) := by decide +kernel
set_option maxRecDepth 20000 in
theorem ggX5_addCopy_X5_isTitle : GoodIn wsX5_addCopy wsX5_isTitle := goodIn_r _ [10, 11, 12, 13, 9, 14, 20, 21, 22, 23, 24, 25, 26, 27, 28, 29, 30, 31, 32, 33, 34, 35, 36, 37, 38, 39, 40, 41, 42, 43, 44, 45, 46, 47, 48, 49, 50, 51, 52] (by decide +kernel) (by decide +kernel)
set_option maxRecDepth 20000 in
theorem gX5_addCopy_X5_isTitle : GoodIn wsX5_addCopy (wsV RX5 109 RX5 yX5_isTitle wsX5_isTitle) := goodIn_app (goodIn_of _ (by decide +kernel)) ggX5_addCopy_X5_isTitle
set_option maxRecDepth 20000 in
theorem ggX5_addCopy_X5_isFine : GoodIn wsX5_addCopy wsX5_isFine := goodIn_r _ [18, 19, 20, 21, 22, 23, 24, 25, 26, 27, 28, 29, 30, 31, 32, 33, 34, 35, 36, 37, 38, 39, 40, 41, 42, 43, 44, 45, 46, 47, 48, 49, 50, 51, 52] (by decide +kernel) (by decide +kernel)
set_option maxRecDepth 20000 in
theorem gX5_addCopy_X5_isFine : GoodIn wsX5_addCopy (wsV RX5 99 RX5 yX5_isFine wsX5_isFine) := goodIn_app (goodIn_of _ (by decide +kernel)) ggX5_addCopy_X5_isFine
theorem dX5_addCopy_0 : decode cX5_addCopy 0 = .ok (.aload_n 0, 1) := by decide +kernel
theorem dX5_addCopy_1 : decode cX5_addCopy 1 = .ok (.aload_n 0, 1) := by decide +kernel
theorem dX5_addCopy_2 : decode cX5_addCopy 2 = .ok (.iload_n 1, 1) := by decide +kernel
theorem dX5_addCopy_3 : decode cX5_addCopy 3 = .ok (.invokevirtual 109, 3) := by decide +kernel
theorem dX5_addCopy_6 : decode cX5_addCopy 6 = .ok (.ifCond .ne 7, 3) := by decide +kernel
theorem dX5_addCopy_9 : decode cX5_addCopy 9 = .ok (.iconst 1, 1) := by decide +kernel
theorem dX5_addCopy_10 : decode cX5_addCopy 10 = .ok (.goto 17, 3) := by decide +kernel
theorem dX5_addCopy_13 : decode cX5_addCopy 13 = .ok (.aload_n 0, 1) := by decide +kernel
theorem dX5_addCopy_14 : decode cX5_addCopy 14 = .ok (.getfield 90, 3) := by decide +kernel
theorem dX5_addCopy_17 : decode cX5_addCopy 17 = .ok (.bipush 16, 2) := by decide +kernel
theorem dX5_addCopy_19 : decode cX5_addCopy 19 = .ok (.if_icmp .ne 7, 3) := by decide +kernel
theorem dX5_addCopy_22 : decode cX5_addCopy 22 = .ok (.iconst 2, 1) := by decide +kernel
theorem dX5_addCopy_23 : decode cX5_addCopy 23 = .ok (.goto 4, 3) := by decide +kernel
theorem dX5_addCopy_26 : decode cX5_addCopy 26 = .ok (.iconst 0, 1) := by decide +kernel
theorem dX5_addCopy_27 : decode cX5_addCopy 27 = .ok (.invokevirtual 99, 3) := by decide +kernel
theorem dX5_addCopy_30 : decode cX5_addCopy 30 = .ok (.ifCond .ne 5, 3) := by decide +kernel
theorem dX5_addCopy_33 : decode cX5_addCopy 33 = .ok (.iconst 0, 1) := by decide +kernel
theorem dX5_addCopy_34 : decode cX5_addCopy 34 = .ok (.ireturn, 1) := by decide +kernel
theorem dX5_addCopy_35 : decode cX5_addCopy 35 = .ok (.aload_n 0, 1) := by decide +kernel
theorem dX5_addCopy_36 : decode cX5_addCopy 36 = .ok (.getfield 43, 3) := by decide +kernel
theorem dX5_addCopy_39 : decode cX5_addCopy 39 = .ok (.aload_n 0, 1) := by decide +kernel
theorem dX5_addCopy_40 : decode cX5_addCopy 40 = .ok (.getfield 90, 3) := by decide +kernel
theorem dX5_addCopy_43 : decode cX5_addCopy 43 = .ok (.iload_n 1, 1) := by decide +kernel
theorem dX5_addCopy_44 : decode cX5_addCopy 44 = .ok (.iastore, 1) := by decide +kernel
theorem dX5_addCopy_45 : decode cX5_addCopy 45 = .ok (.aload_n 0, 1) := by decide +kernel
theorem dX5_addCopy_46 : decode cX5_addCopy 46 = .ok (.getfield 46, 3) := by decide +kernel
theorem dX5_addCopy_49 : decode cX5_addCopy 49 = .ok (.aload_n 0, 1) := by decide +kernel
theorem dX5_addCopy_50 : decode cX5_addCopy 50 = .ok (.getfield 90, 3) := by decide +kernel
theorem dX5_addCopy_53 : decode cX5_addCopy 53 = .ok (.iconst 0, 1) := by decide +kernel
theorem dX5_addCopy_54 : decode cX5_addCopy 54 = .ok (.iastore, 1) := by decide +kernel
theorem dX5_addCopy_55 : decode cX5_addCopy 55 = .ok (.iconst 0, 1) := by decide +kernel
theorem dX5_addCopy_56 : decode cX5_addCopy 56 = .ok (.istore_n 2, 1) := by decide +kernel
theorem dX5_addCopy_57 : decode cX5_addCopy 57 = .ok (.iload_n 2, 1) := by decide +kernel
theorem dX5_addCopy_58 : decode cX5_addCopy 58 = .ok (.iconst 4, 1) := by decide +kernel
theorem dX5_addCopy_59 : decode cX5_addCopy 59 = .ok (.if_icmp .ge 32, 3) := by decide +kernel
theorem dX5_addCopy_62 : decode cX5_addCopy 62 = .ok (.aload_n 0, 1) := by decide +kernel
theorem dX5_addCopy_63 : decode cX5_addCopy 63 = .ok (.getfield 49, 3) := by decide +kernel
theorem dX5_addCopy_66 : decode cX5_addCopy 66 = .ok (.iconst 4, 1) := by decide +kernel
theorem dX5_addCopy_67 : decode cX5_addCopy 67 = .ok (.aload_n 0, 1) := by decide +kernel
theorem dX5_addCopy_68 : decode cX5_addCopy 68 = .ok (.getfield 90, 3) := by decide +kernel
theorem dX5_addCopy_71 : decode cX5_addCopy 71 = .ok (.imul, 1) := by decide +kernel
theorem dX5_addCopy_72 : decode cX5_addCopy 72 = .ok (.iload_n 2, 1) := by decide +kernel
theorem dX5_addCopy_73 : decode cX5_addCopy 73 = .ok (.iadd, 1) := by decide +kernel
theorem dX5_addCopy_74 : decode cX5_addCopy 74 = .ok (.aload_n 0, 1) := by decide +kernel
theorem dX5_addCopy_75 : decode cX5_addCopy 75 = .ok (.getfield 40, 3) := by decide +kernel
theorem dX5_addCopy_78 : decode cX5_addCopy 78 = .ok (.iconst 4, 1) := by decide +kernel
theorem dX5_addCopy_79 : decode cX5_addCopy 79 = .ok (.iload_n 1, 1) := by decide +kernel
theorem dX5_addCopy_80 : decode cX5_addCopy 80 = .ok (.imul, 1) := by decide +kernel
theorem dX5_addCopy_81 : decode cX5_addCopy 81 = .ok (.iload_n 2, 1) := by decide +kernel
theorem dX5_addCopy_82 : decode cX5_addCopy 82 = .ok (.iadd, 1) := by decide +kernel
theorem dX5_addCopy_83 : decode cX5_addCopy 83 = .ok (.iaload, 1) := by decide +kernel
theorem dX5_addCopy_84 : decode cX5_addCopy 84 = .ok (.iastore, 1) := by decide +kernel
theorem dX5_addCopy_85 : decode cX5_addCopy 85 = .ok (.iinc 2 1, 3) := by decide +kernel
theorem dX5_addCopy_88 : decode cX5_addCopy 88 = .ok (.goto (-31), 3) := by decide +kernel
theorem dX5_addCopy_91 : decode cX5_addCopy 91 = .ok (.aload_n 0, 1) := by decide +kernel
theorem dX5_addCopy_92 : decode cX5_addCopy 92 = .ok (.dup, 1) := by decide +kernel
theorem dX5_addCopy_93 : decode cX5_addCopy 93 = .ok (.getfield 90, 3) := by decide +kernel
theorem dX5_addCopy_96 : decode cX5_addCopy 96 = .ok (.iconst 1, 1) := by decide +kernel
theorem dX5_addCopy_97 : decode cX5_addCopy 97 = .ok (.iadd, 1) := by decide +kernel
theorem dX5_addCopy_98 : decode cX5_addCopy 98 = .ok (.putfield 90, 3) := by decide +kernel
theorem dX5_addCopy_101 : decode cX5_addCopy 101 = .ok (.aload_n 0, 1) := by decide +kernel
theorem dX5_addCopy_102 : decode cX5_addCopy 102 = .ok (.getfield 90, 3) := by decide +kernel
theorem dX5_addCopy_105 : decode cX5_addCopy 105 = .ok (.iconst 1, 1) := by decide +kernel
theorem dX5_addCopy_106 : decode cX5_addCopy 106 = .ok (.isub, 1) := by decide +kernel
theorem dX5_addCopy_107 : decode cX5_addCopy 107 = .ok (.ireturn, 1) := by decide +kernel
set_option maxRecDepth 20000 in
theorem ggX5_addRule_X5_isTitle : GoodIn wsX5_addRule wsX5_isTitle := goodIn_r _ [10, 11, 12, 13, 9, 14, 20, 21, 22, 23, 24, 25, 26, 27, 28, 29, 30, 31, 32, 33, 34, 35, 36, 37, 38, 39, 40, 41, 42, 43, 44, 45, 46, 47, 48, 49, 50, 51, 52] (by decide +kernel) (by decide +kernel)
set_option maxRecDepth 20000 in
theorem gX5_addRule_X5_isTitle : GoodIn wsX5_addRule (wsV RX5 109 RX5 yX5_isTitle wsX5_isTitle) := goodIn_app (goodIn_of _ (by decide +kernel)) ggX5_addRule_X5_isTitle
set_option maxRecDepth 20000 in
theorem ggX5_addRule_X5_isIn : GoodIn wsX5_addRule wsX5_isIn := goodIn_r _ [14] (by decide +kernel) (by decide +kernel)
set_option maxRecDepth 20000 in
theorem gX5_addRule_X5_isIn : GoodIn wsX5_addRule (va_wsS RX5 86 yX5_isIn wsX5_isIn) := goodIn_app (goodIn_of _ (by decide +kernel)) ggX5_addRule_X5_isIn
set_option maxRecDepth 20000 in
theorem ggX5_addRule_X5_isFine : GoodIn wsX5_addRule wsX5_isFine := goodIn_r _ [18, 19, 20, 21, 22, 23, 24, 25, 26, 27, 28, 29, 30, 31, 32, 33, 34, 35, 36, 37, 38, 39, 40, 41, 42, 43, 44, 45, 46, 47, 48, 49, 50, 51, 52] (by decide +kernel) (by decide +kernel)
set_option maxRecDepth 20000 in
theorem gX5_addRule_X5_isFine : GoodIn wsX5_addRule (wsV RX5 99 RX5 yX5_isFine wsX5_isFine) := goodIn_app (goodIn_of _ (by decide +kernel)) ggX5_addRule_X5_isFine
theorem dX5_addRule_0 : decode cX5_addRule 0 = .ok (.aload_n 0, 1) := by decide +kernel
theorem dX5_addRule_1 : decode cX5_addRule 1 = .ok (.iload_n 1, 1) := by decide +kernel
theorem dX5_addRule_2 : decode cX5_addRule 2 = .ok (.invokevirtual 109, 3) := by decide +kernel
theorem dX5_addRule_5 : decode cX5_addRule 5 = .ok (.ifCond .eq 23, 3) := by decide +kernel
theorem dX5_addRule_8 : decode cX5_addRule 8 = .ok (.iload_n 2, 1) := by decide +kernel
theorem dX5_addRule_9 : decode cX5_addRule 9 = .ok (.iconst (-1), 1) := by decide +kernel
theorem dX5_addRule_10 : decode cX5_addRule 10 = .ok (.aload_n 0, 1) := by decide +kernel
theorem dX5_addRule_11 : decode cX5_addRule 11 = .ok (.getfield 76, 3) := by decide +kernel
theorem dX5_addRule_14 : decode cX5_addRule 14 = .ok (.iload_n 1, 1) := by decide +kernel
theorem dX5_addRule_15 : decode cX5_addRule 15 = .ok (.iaload, 1) := by decide +kernel
theorem dX5_addRule_16 : decode cX5_addRule 16 = .ok (.iconst 1, 1) := by decide +kernel
theorem dX5_addRule_17 : decode cX5_addRule 17 = .ok (.isub, 1) := by decide +kernel
theorem dX5_addRule_18 : decode cX5_addRule 18 = .ok (.invokestatic 86, 3) := by decide +kernel
theorem dX5_addRule_21 : decode cX5_addRule 21 = .ok (.ifCond .eq 7, 3) := by decide +kernel
theorem dX5_addRule_24 : decode cX5_addRule 24 = .ok (.iconst 1, 1) := by decide +kernel
theorem dX5_addRule_25 : decode cX5_addRule 25 = .ok (.goto 4, 3) := by decide +kernel
theorem dX5_addRule_28 : decode cX5_addRule 28 = .ok (.iconst 0, 1) := by decide +kernel
theorem dX5_addRule_29 : decode cX5_addRule 29 = .ok (.istore 6, 2) := by decide +kernel
theorem dX5_addRule_31 : decode cX5_addRule 31 = .ok (.iload_n 3, 1) := by decide +kernel
theorem dX5_addRule_32 : decode cX5_addRule 32 = .ok (.iconst 0, 1) := by decide +kernel
theorem dX5_addRule_33 : decode cX5_addRule 33 = .ok (.iconst 3, 1) := by decide +kernel
theorem dX5_addRule_34 : decode cX5_addRule 34 = .ok (.invokestatic 86, 3) := by decide +kernel
theorem dX5_addRule_37 : decode cX5_addRule 37 = .ok (.ifCond .eq 30, 3) := by decide +kernel
theorem dX5_addRule_40 : decode cX5_addRule 40 = .ok (.iload 4, 2) := by decide +kernel
theorem dX5_addRule_42 : decode cX5_addRule 42 = .ok (.iconst 1, 1) := by decide +kernel
theorem dX5_addRule_43 : decode cX5_addRule 43 = .ok (.sipush 300, 3) := by decide +kernel
theorem dX5_addRule_46 : decode cX5_addRule 46 = .ok (.invokestatic 86, 3) := by decide +kernel
theorem dX5_addRule_49 : decode cX5_addRule 49 = .ok (.ifCond .eq 18, 3) := by decide +kernel
theorem dX5_addRule_52 : decode cX5_addRule 52 = .ok (.iload 5, 2) := by decide +kernel
theorem dX5_addRule_54 : decode cX5_addRule 54 = .ok (.iconst 0, 1) := by decide +kernel
theorem dX5_addRule_55 : decode cX5_addRule 55 = .ok (.bipush 99, 2) := by decide +kernel
theorem dX5_addRule_57 : decode cX5_addRule 57 = .ok (.invokestatic 86, 3) := by decide +kernel
theorem dX5_addRule_60 : decode cX5_addRule 60 = .ok (.ifCond .eq 7, 3) := by decide +kernel
theorem dX5_addRule_63 : decode cX5_addRule 63 = .ok (.iconst 1, 1) := by decide +kernel
theorem dX5_addRule_64 : decode cX5_addRule 64 = .ok (.goto 4, 3) := by decide +kernel
theorem dX5_addRule_67 : decode cX5_addRule 67 = .ok (.iconst 0, 1) := by decide +kernel
theorem dX5_addRule_68 : decode cX5_addRule 68 = .ok (.istore 7, 2) := by decide +kernel
theorem dX5_addRule_70 : decode cX5_addRule 70 = .ok (.aload_n 0, 1) := by decide +kernel
theorem dX5_addRule_71 : decode cX5_addRule 71 = .ok (.iload 6, 2) := by decide +kernel
theorem dX5_addRule_73 : decode cX5_addRule 73 = .ok (.ifCond .ne 7, 3) := by decide +kernel
theorem dX5_addRule_76 : decode cX5_addRule 76 = .ok (.iconst 1, 1) := by decide +kernel
theorem dX5_addRule_77 : decode cX5_addRule 77 = .ok (.goto 28, 3) := by decide +kernel
theorem dX5_addRule_80 : decode cX5_addRule 80 = .ok (.iload 7, 2) := by decide +kernel
theorem dX5_addRule_82 : decode cX5_addRule 82 = .ok (.ifCond .ne 7, 3) := by decide +kernel
theorem dX5_addRule_85 : decode cX5_addRule 85 = .ok (.iconst 2, 1) := by decide +kernel
theorem dX5_addRule_86 : decode cX5_addRule 86 = .ok (.goto 19, 3) := by decide +kernel
theorem dX5_addRule_89 : decode cX5_addRule 89 = .ok (.aload_n 0, 1) := by decide +kernel
theorem dX5_addRule_90 : decode cX5_addRule 90 = .ok (.getfield 76, 3) := by decide +kernel
theorem dX5_addRule_93 : decode cX5_addRule 93 = .ok (.iload_n 1, 1) := by decide +kernel
theorem dX5_addRule_94 : decode cX5_addRule 94 = .ok (.iaload, 1) := by decide +kernel
theorem dX5_addRule_95 : decode cX5_addRule 95 = .ok (.bipush 12, 2) := by decide +kernel
theorem dX5_addRule_97 : decode cX5_addRule 97 = .ok (.if_icmp .ne 7, 3) := by decide +kernel
theorem dX5_addRule_100 : decode cX5_addRule 100 = .ok (.iconst 3, 1) := by decide +kernel
theorem dX5_addRule_101 : decode cX5_addRule 101 = .ok (.goto 4, 3) := by decide +kernel
theorem dX5_addRule_104 : decode cX5_addRule 104 = .ok (.iconst 0, 1) := by decide +kernel
theorem dX5_addRule_105 : decode cX5_addRule 105 = .ok (.invokevirtual 99, 3) := by decide +kernel
theorem dX5_addRule_108 : decode cX5_addRule 108 = .ok (.ifCond .ne 5, 3) := by decide +kernel
theorem dX5_addRule_111 : decode cX5_addRule 111 = .ok (.iconst 0, 1) := by decide +kernel
theorem dX5_addRule_112 : decode cX5_addRule 112 = .ok (.ireturn, 1) := by decide +kernel
theorem dX5_addRule_113 : decode cX5_addRule 113 = .ok (.bipush 12, 2) := by decide +kernel
theorem dX5_addRule_115 : decode cX5_addRule 115 = .ok (.iload_n 1, 1) := by decide +kernel
theorem dX5_addRule_116 : decode cX5_addRule 116 = .ok (.imul, 1) := by decide +kernel
theorem dX5_addRule_117 : decode cX5_addRule 117 = .ok (.aload_n 0, 1) := by decide +kernel
theorem dX5_addRule_118 : decode cX5_addRule 118 = .ok (.getfield 76, 3) := by decide +kernel
theorem dX5_addRule_121 : decode cX5_addRule 121 = .ok (.iload_n 1, 1) := by decide +kernel
theorem dX5_addRule_122 : decode cX5_addRule 122 = .ok (.iaload, 1) := by decide +kernel
theorem dX5_addRule_123 : decode cX5_addRule 123 = .ok (.iadd, 1) := by decide +kernel
theorem dX5_addRule_124 : decode cX5_addRule 124 = .ok (.istore 8, 2) := by decide +kernel
theorem dX5_addRule_126 : decode cX5_addRule 126 = .ok (.aload_n 0, 1) := by decide +kernel
theorem dX5_addRule_127 : decode cX5_addRule 127 = .ok (.getfield 64, 3) := by decide +kernel
theorem dX5_addRule_130 : decode cX5_addRule 130 = .ok (.iload 8, 2) := by decide +kernel
theorem dX5_addRule_132 : decode cX5_addRule 132 = .ok (.iload_n 2, 1) := by decide +kernel
theorem dX5_addRule_133 : decode cX5_addRule 133 = .ok (.iastore, 1) := by decide +kernel
theorem dX5_addRule_134 : decode cX5_addRule 134 = .ok (.aload_n 0, 1) := by decide +kernel
theorem dX5_addRule_135 : decode cX5_addRule 135 = .ok (.getfield 67, 3) := by decide +kernel
theorem dX5_addRule_138 : decode cX5_addRule 138 = .ok (.iload 8, 2) := by decide +kernel
theorem dX5_addRule_140 : decode cX5_addRule 140 = .ok (.iload_n 3, 1) := by decide +kernel
theorem dX5_addRule_141 : decode cX5_addRule 141 = .ok (.iastore, 1) := by decide +kernel
theorem dX5_addRule_142 : decode cX5_addRule 142 = .ok (.aload_n 0, 1) := by decide +kernel
theorem dX5_addRule_143 : decode cX5_addRule 143 = .ok (.getfield 70, 3) := by decide +kernel
theorem dX5_addRule_146 : decode cX5_addRule 146 = .ok (.iload 8, 2) := by decide +kernel
theorem dX5_addRule_148 : decode cX5_addRule 148 = .ok (.iload 4, 2) := by decide +kernel
theorem dX5_addRule_150 : decode cX5_addRule 150 = .ok (.iastore, 1) := by decide +kernel
theorem dX5_addRule_151 : decode cX5_addRule 151 = .ok (.aload_n 0, 1) := by decide +kernel
theorem dX5_addRule_152 : decode cX5_addRule 152 = .ok (.getfield 73, 3) := by decide +kernel
theorem dX5_addRule_155 : decode cX5_addRule 155 = .ok (.iload 8, 2) := by decide +kernel
theorem dX5_addRule_157 : decode cX5_addRule 157 = .ok (.iload 5, 2) := by decide +kernel
theorem dX5_addRule_159 : decode cX5_addRule 159 = .ok (.iastore, 1) := by decide +kernel
theorem dX5_addRule_160 : decode cX5_addRule 160 = .ok (.aload_n 0, 1) := by decide +kernel
theorem dX5_addRule_161 : decode cX5_addRule 161 = .ok (.getfield 76, 3) := by decide +kernel
theorem dX5_addRule_164 : decode cX5_addRule 164 = .ok (.iload_n 1, 1) := by decide +kernel
theorem dX5_addRule_165 : decode cX5_addRule 165 = .ok (.dup2, 1) := by decide +kernel
theorem dX5_addRule_166 : decode cX5_addRule 166 = .ok (.iaload, 1) := by decide +kernel
theorem dX5_addRule_167 : decode cX5_addRule 167 = .ok (.iconst 1, 1) := by decide +kernel
theorem dX5_addRule_168 : decode cX5_addRule 168 = .ok (.iadd, 1) := by decide +kernel
theorem dX5_addRule_169 : decode cX5_addRule 169 = .ok (.iastore, 1) := by decide +kernel
theorem dX5_addRule_170 : decode cX5_addRule 170 = .ok (.aload_n 0, 1) := by decide +kernel
theorem dX5_addRule_171 : decode cX5_addRule 171 = .ok (.getfield 76, 3) := by decide +kernel
theorem dX5_addRule_174 : decode cX5_addRule 174 = .ok (.iload_n 1, 1) := by decide +kernel
theorem dX5_addRule_175 : decode cX5_addRule 175 = .ok (.iaload, 1) := by decide +kernel
theorem dX5_addRule_176 : decode cX5_addRule 176 = .ok (.iconst 1, 1) := by decide +kernel
theorem dX5_addRule_177 : decode cX5_addRule 177 = .ok (.isub, 1) := by decide +kernel
theorem dX5_addRule_178 : decode cX5_addRule 178 = .ok (.ireturn, 1) := by decide +kernel
theorem dX5_finds_0 : decode cX5_finds 0 = .ok (.aload_n 0, 1) := by decide +kernel
theorem dX5_finds_1 : decode cX5_finds 1 = .ok (.iconst (-1), 1) := by decide +kernel
theorem dX5_finds_2 : decode cX5_finds 2 = .ok (.putfield 112, 3) := by decide +kernel
theorem dX5_finds_5 : decode cX5_finds 5 = .ok (.iconst 0, 1) := by decide +kernel
theorem dX5_finds_6 : decode cX5_finds 6 = .ok (.istore_n 2, 1) := by decide +kernel
theorem dX5_finds_7 : decode cX5_finds 7 = .ok (.iload_n 2, 1) := by decide +kernel
theorem dX5_finds_8 : decode cX5_finds 8 = .ok (.aload_n 0, 1) := by decide +kernel
theorem dX5_finds_9 : decode cX5_finds 9 = .ok (.getfield 103, 3) := by decide +kernel
theorem dX5_finds_12 : decode cX5_finds 12 = .ok (.if_icmp .ge 134, 3) := by decide +kernel
theorem dX5_finds_15 : decode cX5_finds 15 = .ok (.iconst 1, 1) := by decide +kernel
theorem dX5_finds_16 : decode cX5_finds 16 = .ok (.istore_n 3, 1) := by decide +kernel
theorem dX5_finds_17 : decode cX5_finds 17 = .ok (.iload_n 2, 1) := by decide +kernel
theorem dX5_finds_18 : decode cX5_finds 18 = .ok (.istore 4, 2) := by decide +kernel
theorem dX5_finds_20 : decode cX5_finds 20 = .ok (.iload 4, 2) := by decide +kernel
theorem dX5_finds_22 : decode cX5_finds 22 = .ok (.aload_n 0, 1) := by decide +kernel
theorem dX5_finds_23 : decode cX5_finds 23 = .ok (.getfield 103, 3) := by decide +kernel
theorem dX5_finds_26 : decode cX5_finds 26 = .ok (.if_icmp .ge 114, 3) := by decide +kernel
theorem dX5_finds_29 : decode cX5_finds 29 = .ok (.aload_n 0, 1) := by decide +kernel
theorem dX5_finds_30 : decode cX5_finds 30 = .ok (.getfield 13, 3) := by decide +kernel
theorem dX5_finds_33 : decode cX5_finds 33 = .ok (.iload 4, 2) := by decide +kernel
theorem dX5_finds_35 : decode cX5_finds 35 = .ok (.iaload, 1) := by decide +kernel
theorem dX5_finds_36 : decode cX5_finds 36 = .ok (.iconst (-1), 1) := by decide +kernel
theorem dX5_finds_37 : decode cX5_finds 37 = .ok (.if_icmp .ne 103, 3) := by decide +kernel
theorem dX5_finds_40 : decode cX5_finds 40 = .ok (.iload_n 3, 1) := by decide +kernel
theorem dX5_finds_41 : decode cX5_finds 41 = .ok (.aload_n 0, 1) := by decide +kernel
theorem dX5_finds_42 : decode cX5_finds 42 = .ok (.getfield 7, 3) := by decide +kernel
theorem dX5_finds_45 : decode cX5_finds 45 = .ok (.iload 4, 2) := by decide +kernel
theorem dX5_finds_47 : decode cX5_finds 47 = .ok (.iaload, 1) := by decide +kernel
theorem dX5_finds_48 : decode cX5_finds 48 = .ok (.iconst 1, 1) := by decide +kernel
theorem dX5_finds_49 : decode cX5_finds 49 = .ok (.isub, 1) := by decide +kernel
theorem dX5_finds_50 : decode cX5_finds 50 = .ok (.iadd, 1) := by decide +kernel
theorem dX5_finds_51 : decode cX5_finds 51 = .ok (.istore_n 3, 1) := by decide +kernel
theorem dX5_finds_52 : decode cX5_finds 52 = .ok (.iload_n 3, 1) := by decide +kernel
theorem dX5_finds_53 : decode cX5_finds 53 = .ok (.iload_n 1, 1) := by decide +kernel
theorem dX5_finds_54 : decode cX5_finds 54 = .ok (.isub, 1) := by decide +kernel
theorem dX5_finds_55 : decode cX5_finds 55 = .ok (.istore 5, 2) := by decide +kernel
theorem dX5_finds_57 : decode cX5_finds 57 = .ok (.aload_n 0, 1) := by decide +kernel
theorem dX5_finds_58 : decode cX5_finds 58 = .ok (.getfield 112, 3) := by decide +kernel
theorem dX5_finds_61 : decode cX5_finds 61 = .ok (.iconst (-1), 1) := by decide +kernel
theorem dX5_finds_62 : decode cX5_finds 62 = .ok (.if_icmp .eq 34, 3) := by decide +kernel
theorem dX5_finds_65 : decode cX5_finds 65 = .ok (.iload 5, 2) := by decide +kernel
theorem dX5_finds_67 : decode cX5_finds 67 = .ok (.aload_n 0, 1) := by decide +kernel
theorem dX5_finds_68 : decode cX5_finds 68 = .ok (.getfield 112, 3) := by decide +kernel
theorem dX5_finds_71 : decode cX5_finds 71 = .ok (.if_icmp .lt 25, 3) := by decide +kernel
theorem dX5_finds_74 : decode cX5_finds 74 = .ok (.iload 5, 2) := by decide +kernel
theorem dX5_finds_76 : decode cX5_finds 76 = .ok (.aload_n 0, 1) := by decide +kernel
theorem dX5_finds_77 : decode cX5_finds 77 = .ok (.getfield 112, 3) := by decide +kernel
theorem dX5_finds_80 : decode cX5_finds 80 = .ok (.if_icmp .ne 20, 3) := by decide +kernel
theorem dX5_finds_83 : decode cX5_finds 83 = .ok (.iload 4, 2) := by decide +kernel
theorem dX5_finds_85 : decode cX5_finds 85 = .ok (.iconst 1, 1) := by decide +kernel
theorem dX5_finds_86 : decode cX5_finds 86 = .ok (.iadd, 1) := by decide +kernel
theorem dX5_finds_87 : decode cX5_finds 87 = .ok (.iload_n 2, 1) := by decide +kernel
theorem dX5_finds_88 : decode cX5_finds 88 = .ok (.isub, 1) := by decide +kernel
theorem dX5_finds_89 : decode cX5_finds 89 = .ok (.aload_n 0, 1) := by decide +kernel
theorem dX5_finds_90 : decode cX5_finds 90 = .ok (.getfield 115, 3) := by decide +kernel
theorem dX5_finds_93 : decode cX5_finds 93 = .ok (.if_icmp .ge 7, 3) := by decide +kernel
theorem dX5_finds_96 : decode cX5_finds 96 = .ok (.iconst 1, 1) := by decide +kernel
theorem dX5_finds_97 : decode cX5_finds 97 = .ok (.goto 4, 3) := by decide +kernel
theorem dX5_finds_100 : decode cX5_finds 100 = .ok (.iconst 0, 1) := by decide +kernel
theorem dX5_finds_101 : decode cX5_finds 101 = .ok (.istore 6, 2) := by decide +kernel
theorem dX5_finds_103 : decode cX5_finds 103 = .ok (.iload 5, 2) := by decide +kernel
theorem dX5_finds_105 : decode cX5_finds 105 = .ok (.ifCond .lt 29, 3) := by decide +kernel
theorem dX5_finds_108 : decode cX5_finds 108 = .ok (.iload 6, 2) := by decide +kernel
theorem dX5_finds_110 : decode cX5_finds 110 = .ok (.ifCond .eq 24, 3) := by decide +kernel
theorem dX5_finds_113 : decode cX5_finds 113 = .ok (.aload_n 0, 1) := by decide +kernel
theorem dX5_finds_114 : decode cX5_finds 114 = .ok (.iload 5, 2) := by decide +kernel
theorem dX5_finds_116 : decode cX5_finds 116 = .ok (.putfield 112, 3) := by decide +kernel
theorem dX5_finds_119 : decode cX5_finds 119 = .ok (.aload_n 0, 1) := by decide +kernel
theorem dX5_finds_120 : decode cX5_finds 120 = .ok (.iload_n 2, 1) := by decide +kernel
theorem dX5_finds_121 : decode cX5_finds 121 = .ok (.putfield 118, 3) := by decide +kernel
theorem dX5_finds_124 : decode cX5_finds 124 = .ok (.aload_n 0, 1) := by decide +kernel
theorem dX5_finds_125 : decode cX5_finds 125 = .ok (.iload 4, 2) := by decide +kernel
theorem dX5_finds_127 : decode cX5_finds 127 = .ok (.iconst 1, 1) := by decide +kernel
theorem dX5_finds_128 : decode cX5_finds 128 = .ok (.iadd, 1) := by decide +kernel
theorem dX5_finds_129 : decode cX5_finds 129 = .ok (.iload_n 2, 1) := by decide +kernel
theorem dX5_finds_130 : decode cX5_finds 130 = .ok (.isub, 1) := by decide +kernel
theorem dX5_finds_131 : decode cX5_finds 131 = .ok (.putfield 115, 3) := by decide +kernel
theorem dX5_finds_134 : decode cX5_finds 134 = .ok (.iinc 4 1, 3) := by decide +kernel
theorem dX5_finds_137 : decode cX5_finds 137 = .ok (.goto (-117), 3) := by decide +kernel
theorem dX5_finds_140 : decode cX5_finds 140 = .ok (.iinc 2 1, 3) := by decide +kernel
theorem dX5_finds_143 : decode cX5_finds 143 = .ok (.goto (-136), 3) := by decide +kernel
theorem dX5_finds_146 : decode cX5_finds 146 = .ok (.aload_n 0, 1) := by decide +kernel
theorem dX5_finds_147 : decode cX5_finds 147 = .ok (.getfield 112, 3) := by decide +kernel
theorem dX5_finds_150 : decode cX5_finds 150 = .ok (.iconst (-1), 1) := by decide +kernel
theorem dX5_finds_151 : decode cX5_finds 151 = .ok (.if_icmp .eq 7, 3) := by decide +kernel
theorem dX5_finds_154 : decode cX5_finds 154 = .ok (.iconst 1, 1) := by decide +kernel
theorem dX5_finds_155 : decode cX5_finds 155 = .ok (.goto 4, 3) := by decide +kernel
theorem dX5_finds_158 : decode cX5_finds 158 = .ok (.iconst 0, 1) := by decide +kernel
theorem dX5_finds_159 : decode cX5_finds 159 = .ok (.ireturn, 1) := by decide +kernel
set_option maxRecDepth 20000 in
theorem ggX5_sits_X5_finds : GoodIn wsX5_sits wsX5_finds := goodIn_r _ [12, 13, 14, 4, 15, 3, 2, 16, 17, 18, 19, 20, 21, 22, 23, 24, 25, 26, 27, 28, 29, 30, 31, 32, 33, 34, 35, 36, 37, 38, 39, 40, 41, 42, 43, 44, 45, 46, 47, 48] (by decide +kernel) (by decide +kernel)
set_option maxRecDepth 20000 in
theorem gX5_sits_X5_finds : GoodIn wsX5_sits (wsV RX5 121 RX5 yX5_finds wsX5_finds) := goodIn_app (goodIn_of _ (by decide +kernel)) ggX5_sits_X5_finds
theorem dX5_sits_0 : decode cX5_sits 0 = .ok (.aload_n 0, 1) := by decide +kernel
theorem dX5_sits_1 : decode cX5_sits 1 = .ok (.aload_n 0, 1) := by decide +kernel
theorem dX5_sits_2 : decode cX5_sits 2 = .ok (.getfield 16, 3) := by decide +kernel
theorem dX5_sits_5 : decode cX5_sits 5 = .ok (.iload_n 1, 1) := by decide +kernel
theorem dX5_sits_6 : decode cX5_sits 6 = .ok (.iaload, 1) := by decide +kernel
theorem dX5_sits_7 : decode cX5_sits 7 = .ok (.invokevirtual 121, 3) := by decide +kernel
theorem dX5_sits_10 : decode cX5_sits 10 = .ok (.ifCond .ne 5, 3) := by decide +kernel
theorem dX5_sits_13 : decode cX5_sits 13 = .ok (.iconst 0, 1) := by decide +kernel
theorem dX5_sits_14 : decode cX5_sits 14 = .ok (.ireturn, 1) := by decide +kernel
theorem dX5_sits_15 : decode cX5_sits 15 = .ok (.aload_n 0, 1) := by decide +kernel
theorem dX5_sits_16 : decode cX5_sits 16 = .ok (.getfield 118, 3) := by decide +kernel
theorem dX5_sits_19 : decode cX5_sits 19 = .ok (.istore_n 2, 1) := by decide +kernel
theorem dX5_sits_20 : decode cX5_sits 20 = .ok (.iload_n 2, 1) := by decide +kernel
theorem dX5_sits_21 : decode cX5_sits 21 = .ok (.aload_n 0, 1) := by decide +kernel
theorem dX5_sits_22 : decode cX5_sits 22 = .ok (.getfield 118, 3) := by decide +kernel
theorem dX5_sits_25 : decode cX5_sits 25 = .ok (.aload_n 0, 1) := by decide +kernel
theorem dX5_sits_26 : decode cX5_sits 26 = .ok (.getfield 115, 3) := by decide +kernel
theorem dX5_sits_29 : decode cX5_sits 29 = .ok (.iadd, 1) := by decide +kernel
theorem dX5_sits_30 : decode cX5_sits 30 = .ok (.if_icmp .ge 16, 3) := by decide +kernel
theorem dX5_sits_33 : decode cX5_sits 33 = .ok (.aload_n 0, 1) := by decide +kernel
theorem dX5_sits_34 : decode cX5_sits 34 = .ok (.getfield 13, 3) := by decide +kernel
theorem dX5_sits_37 : decode cX5_sits 37 = .ok (.iload_n 2, 1) := by decide +kernel
theorem dX5_sits_38 : decode cX5_sits 38 = .ok (.iload_n 1, 1) := by decide +kernel
theorem dX5_sits_39 : decode cX5_sits 39 = .ok (.iastore, 1) := by decide +kernel
theorem dX5_sits_40 : decode cX5_sits 40 = .ok (.iinc 2 1, 3) := by decide +kernel
theorem dX5_sits_43 : decode cX5_sits 43 = .ok (.goto (-23), 3) := by decide +kernel
theorem dX5_sits_46 : decode cX5_sits 46 = .ok (.aload_n 0, 1) := by decide +kernel
theorem dX5_sits_47 : decode cX5_sits 47 = .ok (.getfield 22, 3) := by decide +kernel
theorem dX5_sits_50 : decode cX5_sits 50 = .ok (.iload_n 1, 1) := by decide +kernel
theorem dX5_sits_51 : decode cX5_sits 51 = .ok (.iconst 1, 1) := by decide +kernel
theorem dX5_sits_52 : decode cX5_sits 52 = .ok (.iastore, 1) := by decide +kernel
theorem dX5_sits_53 : decode cX5_sits 53 = .ok (.aload_n 0, 1) := by decide +kernel
theorem dX5_sits_54 : decode cX5_sits 54 = .ok (.getfield 25, 3) := by decide +kernel
theorem dX5_sits_57 : decode cX5_sits 57 = .ok (.iload_n 1, 1) := by decide +kernel
theorem dX5_sits_58 : decode cX5_sits 58 = .ok (.aload_n 0, 1) := by decide +kernel
theorem dX5_sits_59 : decode cX5_sits 59 = .ok (.getfield 96, 3) := by decide +kernel
theorem dX5_sits_62 : decode cX5_sits 62 = .ok (.iastore, 1) := by decide +kernel
theorem dX5_sits_63 : decode cX5_sits 63 = .ok (.iconst 1, 1) := by decide +kernel
theorem dX5_sits_64 : decode cX5_sits 64 = .ok (.ireturn, 1) := by decide +kernel
set_option maxRecDepth 20000 in
theorem ggX5_arrive_X5_isIn : GoodIn wsX5_arrive wsX5_isIn := goodIn_r _ [9] (by decide +kernel) (by decide +kernel)
set_option maxRecDepth 20000 in
theorem gX5_arrive_X5_isIn : GoodIn wsX5_arrive (va_wsS RX5 86 yX5_isIn wsX5_isIn) := goodIn_app (goodIn_of _ (by decide +kernel)) ggX5_arrive_X5_isIn
set_option maxRecDepth 20000 in
theorem ggX5_arrive_X5_isFine : GoodIn wsX5_arrive wsX5_isFine := goodIn_r _ [13, 14, 31, 32, 33, 34, 35, 36, 37, 38, 39, 40, 41, 42, 43, 44, 45, 46, 47, 48, 49, 50, 51, 52, 53, 54, 55, 56, 57, 58, 59, 60, 61, 62, 63] (by decide +kernel) (by decide +kernel)
set_option maxRecDepth 20000 in
theorem gX5_arrive_X5_isFine : GoodIn wsX5_arrive (wsV RX5 99 RX5 yX5_isFine wsX5_isFine) := goodIn_app (goodIn_of _ (by decide +kernel)) ggX5_arrive_X5_isFine
set_option maxRecDepth 20000 in
theorem ggX5_arrive_X5_sits : GoodIn wsX5_arrive wsX5_sits := goodIn_r _ [18, 2, 19, 20, 21, 5, 22, 23, 24, 25, 26, 8, 27, 28, 29, 30, 31, 32, 33, 34, 35, 36, 37, 38, 39, 40, 41, 42, 43, 44, 45, 46, 47, 48, 49, 50, 51, 52, 53, 54, 55, 56, 57, 58, 59, 60, 61, 62, 63] (by decide +kernel) (by decide +kernel)
set_option maxRecDepth 20000 in
theorem gX5_arrive_X5_sits : GoodIn wsX5_arrive (wsV RX5 124 RX5 yX5_sits wsX5_sits) := goodIn_app (goodIn_of _ (by decide +kernel)) ggX5_arrive_X5_sits
theorem dX5_arrive_0 : decode cX5_arrive 0 = .ok (.aload_n 0, 1) := by decide +kernel
theorem dX5_arrive_1 : decode cX5_arrive 1 = .ok (.iload_n 1, 1) := by decide +kernel
theorem dX5_arrive_2 : decode cX5_arrive 2 = .ok (.iconst 1, 1) := by decide +kernel
theorem dX5_arrive_3 : decode cX5_arrive 3 = .ok (.bipush 12, 2) := by decide +kernel
theorem dX5_arrive_5 : decode cX5_arrive 5 = .ok (.invokestatic 86, 3) := by decide +kernel
theorem dX5_arrive_8 : decode cX5_arrive 8 = .ok (.ifCond .eq 15, 3) := by decide +kernel
theorem dX5_arrive_11 : decode cX5_arrive 11 = .ok (.iload_n 2, 1) := by decide +kernel
theorem dX5_arrive_12 : decode cX5_arrive 12 = .ok (.bipush 10, 2) := by decide +kernel
theorem dX5_arrive_14 : decode cX5_arrive 14 = .ok (.sipush 600, 3) := by decide +kernel
theorem dX5_arrive_17 : decode cX5_arrive 17 = .ok (.invokestatic 86, 3) := by decide +kernel
theorem dX5_arrive_20 : decode cX5_arrive 20 = .ok (.ifCond .ne 7, 3) := by decide +kernel
theorem dX5_arrive_23 : decode cX5_arrive 23 = .ok (.iconst 1, 1) := by decide +kernel
theorem dX5_arrive_24 : decode cX5_arrive 24 = .ok (.goto 17, 3) := by decide +kernel
theorem dX5_arrive_27 : decode cX5_arrive 27 = .ok (.aload_n 0, 1) := by decide +kernel
theorem dX5_arrive_28 : decode cX5_arrive 28 = .ok (.getfield 93, 3) := by decide +kernel
theorem dX5_arrive_31 : decode cX5_arrive 31 = .ok (.bipush 30, 2) := by decide +kernel
theorem dX5_arrive_33 : decode cX5_arrive 33 = .ok (.if_icmp .ne 7, 3) := by decide +kernel
theorem dX5_arrive_36 : decode cX5_arrive 36 = .ok (.iconst 2, 1) := by decide +kernel
theorem dX5_arrive_37 : decode cX5_arrive 37 = .ok (.goto 4, 3) := by decide +kernel
theorem dX5_arrive_40 : decode cX5_arrive 40 = .ok (.iconst 0, 1) := by decide +kernel
theorem dX5_arrive_41 : decode cX5_arrive 41 = .ok (.invokevirtual 99, 3) := by decide +kernel
theorem dX5_arrive_44 : decode cX5_arrive 44 = .ok (.ifCond .ne 5, 3) := by decide +kernel
theorem dX5_arrive_47 : decode cX5_arrive 47 = .ok (.iconst 0, 1) := by decide +kernel
theorem dX5_arrive_48 : decode cX5_arrive 48 = .ok (.ireturn, 1) := by decide +kernel
theorem dX5_arrive_49 : decode cX5_arrive 49 = .ok (.aload_n 0, 1) := by decide +kernel
theorem dX5_arrive_50 : decode cX5_arrive 50 = .ok (.getfield 93, 3) := by decide +kernel
theorem dX5_arrive_53 : decode cX5_arrive 53 = .ok (.istore_n 3, 1) := by decide +kernel
theorem dX5_arrive_54 : decode cX5_arrive 54 = .ok (.aload_n 0, 1) := by decide +kernel
theorem dX5_arrive_55 : decode cX5_arrive 55 = .ok (.getfield 16, 3) := by decide +kernel
theorem dX5_arrive_58 : decode cX5_arrive 58 = .ok (.iload_n 3, 1) := by decide +kernel
theorem dX5_arrive_59 : decode cX5_arrive 59 = .ok (.iload_n 1, 1) := by decide +kernel
theorem dX5_arrive_60 : decode cX5_arrive 60 = .ok (.iastore, 1) := by decide +kernel
theorem dX5_arrive_61 : decode cX5_arrive 61 = .ok (.aload_n 0, 1) := by decide +kernel
theorem dX5_arrive_62 : decode cX5_arrive 62 = .ok (.getfield 19, 3) := by decide +kernel
theorem dX5_arrive_65 : decode cX5_arrive 65 = .ok (.iload_n 3, 1) := by decide +kernel
theorem dX5_arrive_66 : decode cX5_arrive 66 = .ok (.iload_n 2, 1) := by decide +kernel
theorem dX5_arrive_67 : decode cX5_arrive 67 = .ok (.iastore, 1) := by decide +kernel
theorem dX5_arrive_68 : decode cX5_arrive 68 = .ok (.aload_n 0, 1) := by decide +kernel
theorem dX5_arrive_69 : decode cX5_arrive 69 = .ok (.getfield 28, 3) := by decide +kernel
theorem dX5_arrive_72 : decode cX5_arrive 72 = .ok (.iload_n 3, 1) := by decide +kernel
theorem dX5_arrive_73 : decode cX5_arrive 73 = .ok (.iconst (-1), 1) := by decide +kernel
theorem dX5_arrive_74 : decode cX5_arrive 74 = .ok (.iastore, 1) := by decide +kernel
theorem dX5_arrive_75 : decode cX5_arrive 75 = .ok (.aload_n 0, 1) := by decide +kernel
theorem dX5_arrive_76 : decode cX5_arrive 76 = .ok (.dup, 1) := by decide +kernel
theorem dX5_arrive_77 : decode cX5_arrive 77 = .ok (.getfield 93, 3) := by decide +kernel
theorem dX5_arrive_80 : decode cX5_arrive 80 = .ok (.iconst 1, 1) := by decide +kernel
theorem dX5_arrive_81 : decode cX5_arrive 81 = .ok (.iadd, 1) := by decide +kernel
theorem dX5_arrive_82 : decode cX5_arrive 82 = .ok (.putfield 93, 3) := by decide +kernel
theorem dX5_arrive_85 : decode cX5_arrive 85 = .ok (.aload_n 0, 1) := by decide +kernel
theorem dX5_arrive_86 : decode cX5_arrive 86 = .ok (.getfield 22, 3) := by decide +kernel
theorem dX5_arrive_89 : decode cX5_arrive 89 = .ok (.iload_n 3, 1) := by decide +kernel
theorem dX5_arrive_90 : decode cX5_arrive 90 = .ok (.aload_n 0, 1) := by decide +kernel
theorem dX5_arrive_91 : decode cX5_arrive 91 = .ok (.iload_n 3, 1) := by decide +kernel
theorem dX5_arrive_92 : decode cX5_arrive 92 = .ok (.invokevirtual 124, 3) := by decide +kernel
theorem dX5_arrive_95 : decode cX5_arrive 95 = .ok (.ifCond .eq 7, 3) := by decide +kernel
theorem dX5_arrive_98 : decode cX5_arrive 98 = .ok (.iconst 1, 1) := by decide +kernel
theorem dX5_arrive_99 : decode cX5_arrive 99 = .ok (.goto 4, 3) := by decide +kernel
theorem dX5_arrive_102 : decode cX5_arrive 102 = .ok (.iconst 0, 1) := by decide +kernel
theorem dX5_arrive_103 : decode cX5_arrive 103 = .ok (.iastore, 1) := by decide +kernel
theorem dX5_arrive_104 : decode cX5_arrive 104 = .ok (.iload_n 3, 1) := by decide +kernel
theorem dX5_arrive_105 : decode cX5_arrive 105 = .ok (.ireturn, 1) := by decide +kernel
set_option maxRecDepth 20000 in
theorem ggX5_leave_X5_isGroup : GoodIn wsX5_leave wsX5_isGroup := goodIn_r _ [10, 5, 11, 12, 9, 13, 34, 35, 36, 37, 38, 39, 40, 41, 42, 43, 44, 45, 46, 47, 48, 49, 50, 51, 52, 53, 54, 55, 56, 57, 58, 59, 60, 61, 62, 63, 64, 65, 66] (by decide +kernel) (by decide +kernel)
set_option maxRecDepth 20000 in
theorem gX5_leave_X5_isGroup : GoodIn wsX5_leave (wsV RX5 127 RX5 yX5_isGroup wsX5_isGroup) := goodIn_app (goodIn_of _ (by decide +kernel)) ggX5_leave_X5_isGroup
set_option maxRecDepth 20000 in
theorem ggX5_leave_X5_isFine : GoodIn wsX5_leave wsX5_isFine := goodIn_r _ [17, 18, 34, 35, 36, 37, 38, 39, 40, 41, 42, 43, 44, 45, 46, 47, 48, 49, 50, 51, 52, 53, 54, 55, 56, 57, 58, 59, 60, 61, 62, 63, 64, 65, 66] (by decide +kernel) (by decide +kernel)
set_option maxRecDepth 20000 in
theorem gX5_leave_X5_isFine : GoodIn wsX5_leave (wsV RX5 99 RX5 yX5_isFine wsX5_isFine) := goodIn_app (goodIn_of _ (by decide +kernel)) ggX5_leave_X5_isFine
set_option maxRecDepth 20000 in
theorem ggX5_leave_X5_sits : GoodIn wsX5_leave wsX5_sits := goodIn_r _ [22, 23, 24, 25, 4, 2, 26, 27, 28, 29, 30, 9, 31, 32, 3, 33, 34, 35, 36, 37, 38, 39, 40, 41, 42, 43, 44, 45, 46, 47, 48, 49, 50, 51, 52, 53, 54, 55, 56, 57, 58, 59, 60, 61, 62, 63, 64, 65, 66] (by decide +kernel) (by decide +kernel)
set_option maxRecDepth 20000 in
theorem gX5_leave_X5_sits : GoodIn wsX5_leave (wsV RX5 124 RX5 yX5_sits wsX5_sits) := goodIn_app (goodIn_of _ (by decide +kernel)) ggX5_leave_X5_sits
theorem dX5_leave_0 : decode cX5_leave 0 = .ok (.aload_n 0, 1) := by decide +kernel
theorem dX5_leave_1 : decode cX5_leave 1 = .ok (.iload_n 1, 1) := by decide +kernel
theorem dX5_leave_2 : decode cX5_leave 2 = .ok (.invokevirtual 127, 3) := by decide +kernel
theorem dX5_leave_5 : decode cX5_leave 5 = .ok (.istore_n 2, 1) := by decide +kernel
theorem dX5_leave_6 : decode cX5_leave 6 = .ok (.aload_n 0, 1) := by decide +kernel
theorem dX5_leave_7 : decode cX5_leave 7 = .ok (.iload_n 2, 1) := by decide +kernel
theorem dX5_leave_8 : decode cX5_leave 8 = .ok (.ifCond .ne 7, 3) := by decide +kernel
theorem dX5_leave_11 : decode cX5_leave 11 = .ok (.iconst 1, 1) := by decide +kernel
theorem dX5_leave_12 : decode cX5_leave 12 = .ok (.goto 28, 3) := by decide +kernel
theorem dX5_leave_15 : decode cX5_leave 15 = .ok (.aload_n 0, 1) := by decide +kernel
theorem dX5_leave_16 : decode cX5_leave 16 = .ok (.getfield 28, 3) := by decide +kernel
theorem dX5_leave_19 : decode cX5_leave 19 = .ok (.iload_n 1, 1) := by decide +kernel
theorem dX5_leave_20 : decode cX5_leave 20 = .ok (.iaload, 1) := by decide +kernel
theorem dX5_leave_21 : decode cX5_leave 21 = .ok (.iconst (-1), 1) := by decide +kernel
theorem dX5_leave_22 : decode cX5_leave 22 = .ok (.if_icmp .ne 13, 3) := by decide +kernel
theorem dX5_leave_25 : decode cX5_leave 25 = .ok (.aload_n 0, 1) := by decide +kernel
theorem dX5_leave_26 : decode cX5_leave 26 = .ok (.getfield 22, 3) := by decide +kernel
theorem dX5_leave_29 : decode cX5_leave 29 = .ok (.iload_n 1, 1) := by decide +kernel
theorem dX5_leave_30 : decode cX5_leave 30 = .ok (.iaload, 1) := by decide +kernel
theorem dX5_leave_31 : decode cX5_leave 31 = .ok (.iconst 2, 1) := by decide +kernel
theorem dX5_leave_32 : decode cX5_leave 32 = .ok (.if_icmp .ne 7, 3) := by decide +kernel
theorem dX5_leave_35 : decode cX5_leave 35 = .ok (.iconst 2, 1) := by decide +kernel
theorem dX5_leave_36 : decode cX5_leave 36 = .ok (.goto 4, 3) := by decide +kernel
theorem dX5_leave_39 : decode cX5_leave 39 = .ok (.iconst 0, 1) := by decide +kernel
theorem dX5_leave_40 : decode cX5_leave 40 = .ok (.invokevirtual 99, 3) := by decide +kernel
theorem dX5_leave_43 : decode cX5_leave 43 = .ok (.ifCond .ne 5, 3) := by decide +kernel
theorem dX5_leave_46 : decode cX5_leave 46 = .ok (.iconst 0, 1) := by decide +kernel
theorem dX5_leave_47 : decode cX5_leave 47 = .ok (.ireturn, 1) := by decide +kernel
theorem dX5_leave_48 : decode cX5_leave 48 = .ok (.aload_n 0, 1) := by decide +kernel
theorem dX5_leave_49 : decode cX5_leave 49 = .ok (.getfield 22, 3) := by decide +kernel
theorem dX5_leave_52 : decode cX5_leave 52 = .ok (.iload_n 1, 1) := by decide +kernel
theorem dX5_leave_53 : decode cX5_leave 53 = .ok (.iconst 2, 1) := by decide +kernel
theorem dX5_leave_54 : decode cX5_leave 54 = .ok (.iastore, 1) := by decide +kernel
theorem dX5_leave_55 : decode cX5_leave 55 = .ok (.iconst 0, 1) := by decide +kernel
theorem dX5_leave_56 : decode cX5_leave 56 = .ok (.istore_n 3, 1) := by decide +kernel
theorem dX5_leave_57 : decode cX5_leave 57 = .ok (.iload_n 3, 1) := by decide +kernel
theorem dX5_leave_58 : decode cX5_leave 58 = .ok (.aload_n 0, 1) := by decide +kernel
theorem dX5_leave_59 : decode cX5_leave 59 = .ok (.getfield 103, 3) := by decide +kernel
theorem dX5_leave_62 : decode cX5_leave 62 = .ok (.if_icmp .ge 35, 3) := by decide +kernel
theorem dX5_leave_65 : decode cX5_leave 65 = .ok (.aload_n 0, 1) := by decide +kernel
theorem dX5_leave_66 : decode cX5_leave 66 = .ok (.getfield 13, 3) := by decide +kernel
theorem dX5_leave_69 : decode cX5_leave 69 = .ok (.iload_n 3, 1) := by decide +kernel
theorem dX5_leave_70 : decode cX5_leave 70 = .ok (.aload_n 0, 1) := by decide +kernel
theorem dX5_leave_71 : decode cX5_leave 71 = .ok (.getfield 13, 3) := by decide +kernel
theorem dX5_leave_74 : decode cX5_leave 74 = .ok (.iload_n 3, 1) := by decide +kernel
theorem dX5_leave_75 : decode cX5_leave 75 = .ok (.iaload, 1) := by decide +kernel
theorem dX5_leave_76 : decode cX5_leave 76 = .ok (.iload_n 1, 1) := by decide +kernel
theorem dX5_leave_77 : decode cX5_leave 77 = .ok (.if_icmp .ne 7, 3) := by decide +kernel
theorem dX5_leave_80 : decode cX5_leave 80 = .ok (.iconst (-1), 1) := by decide +kernel
theorem dX5_leave_81 : decode cX5_leave 81 = .ok (.goto 9, 3) := by decide +kernel
theorem dX5_leave_84 : decode cX5_leave 84 = .ok (.aload_n 0, 1) := by decide +kernel
theorem dX5_leave_85 : decode cX5_leave 85 = .ok (.getfield 13, 3) := by decide +kernel
theorem dX5_leave_88 : decode cX5_leave 88 = .ok (.iload_n 3, 1) := by decide +kernel
theorem dX5_leave_89 : decode cX5_leave 89 = .ok (.iaload, 1) := by decide +kernel
theorem dX5_leave_90 : decode cX5_leave 90 = .ok (.iastore, 1) := by decide +kernel
theorem dX5_leave_91 : decode cX5_leave 91 = .ok (.iinc 3 1, 3) := by decide +kernel
theorem dX5_leave_94 : decode cX5_leave 94 = .ok (.goto (-37), 3) := by decide +kernel
theorem dX5_leave_97 : decode cX5_leave 97 = .ok (.iconst 0, 1) := by decide +kernel
theorem dX5_leave_98 : decode cX5_leave 98 = .ok (.istore_n 3, 1) := by decide +kernel
theorem dX5_leave_99 : decode cX5_leave 99 = .ok (.iconst 0, 1) := by decide +kernel
theorem dX5_leave_100 : decode cX5_leave 100 = .ok (.istore 4, 2) := by decide +kernel
theorem dX5_leave_102 : decode cX5_leave 102 = .ok (.iload 4, 2) := by decide +kernel
theorem dX5_leave_104 : decode cX5_leave 104 = .ok (.aload_n 0, 1) := by decide +kernel
theorem dX5_leave_105 : decode cX5_leave 105 = .ok (.getfield 93, 3) := by decide +kernel
theorem dX5_leave_108 : decode cX5_leave 108 = .ok (.if_icmp .ge 36, 3) := by decide +kernel
theorem dX5_leave_111 : decode cX5_leave 111 = .ok (.iload_n 3, 1) := by decide +kernel
theorem dX5_leave_112 : decode cX5_leave 112 = .ok (.aload_n 0, 1) := by decide +kernel
theorem dX5_leave_113 : decode cX5_leave 113 = .ok (.getfield 22, 3) := by decide +kernel
theorem dX5_leave_116 : decode cX5_leave 116 = .ok (.iload 4, 2) := by decide +kernel
theorem dX5_leave_118 : decode cX5_leave 118 = .ok (.iaload, 1) := by decide +kernel
theorem dX5_leave_119 : decode cX5_leave 119 = .ok (.ifCond .ne 16, 3) := by decide +kernel
theorem dX5_leave_122 : decode cX5_leave 122 = .ok (.aload_n 0, 1) := by decide +kernel
theorem dX5_leave_123 : decode cX5_leave 123 = .ok (.iload 4, 2) := by decide +kernel
theorem dX5_leave_125 : decode cX5_leave 125 = .ok (.invokevirtual 124, 3) := by decide +kernel
theorem dX5_leave_128 : decode cX5_leave 128 = .ok (.ifCond .eq 7, 3) := by decide +kernel
theorem dX5_leave_131 : decode cX5_leave 131 = .ok (.iconst 1, 1) := by decide +kernel
theorem dX5_leave_132 : decode cX5_leave 132 = .ok (.goto 4, 3) := by decide +kernel
theorem dX5_leave_135 : decode cX5_leave 135 = .ok (.iconst 0, 1) := by decide +kernel
theorem dX5_leave_136 : decode cX5_leave 136 = .ok (.iadd, 1) := by decide +kernel
theorem dX5_leave_137 : decode cX5_leave 137 = .ok (.istore_n 3, 1) := by decide +kernel
theorem dX5_leave_138 : decode cX5_leave 138 = .ok (.iinc 4 1, 3) := by decide +kernel
theorem dX5_leave_141 : decode cX5_leave 141 = .ok (.goto (-39), 3) := by decide +kernel
theorem dX5_leave_144 : decode cX5_leave 144 = .ok (.iload_n 3, 1) := by decide +kernel
theorem dX5_leave_145 : decode cX5_leave 145 = .ok (.ireturn, 1) := by decide +kernel
set_option maxRecDepth 20000 in
theorem ggX5_tableOf_X5_isGroup : GoodIn wsX5_tableOf wsX5_isGroup := goodIn_r _ [7, 8, 9, 10, 6, 11, 17, 18, 19, 20, 21, 22, 23, 24, 25, 26, 27, 28, 29, 30, 31, 32, 33, 34, 35, 36, 37, 38, 39, 40, 41, 42, 43, 44, 45, 46, 47, 48, 49] (by decide +kernel) (by decide +kernel)
set_option maxRecDepth 20000 in
theorem gX5_tableOf_X5_isGroup : GoodIn wsX5_tableOf (wsV RX5 127 RX5 yX5_isGroup wsX5_isGroup) := goodIn_app (goodIn_of _ (by decide +kernel)) ggX5_tableOf_X5_isGroup
set_option maxRecDepth 20000 in
theorem ggX5_tableOf_X5_isFine : GoodIn wsX5_tableOf wsX5_isFine := goodIn_r _ [15, 16, 17, 18, 19, 20, 21, 22, 23, 24, 25, 26, 27, 28, 29, 30, 31, 32, 33, 34, 35, 36, 37, 38, 39, 40, 41, 42, 43, 44, 45, 46, 47, 48, 49] (by decide +kernel) (by decide +kernel)
set_option maxRecDepth 20000 in
theorem gX5_tableOf_X5_isFine : GoodIn wsX5_tableOf (wsV RX5 99 RX5 yX5_isFine wsX5_isFine) := goodIn_app (goodIn_of _ (by decide +kernel)) ggX5_tableOf_X5_isFine
theorem dX5_tableOf_0 : decode cX5_tableOf 0 = .ok (.aload_n 0, 1) := by decide +kernel
theorem dX5_tableOf_1 : decode cX5_tableOf 1 = .ok (.aload_n 0, 1) := by decide +kernel
theorem dX5_tableOf_2 : decode cX5_tableOf 2 = .ok (.iload_n 1, 1) := by decide +kernel
theorem dX5_tableOf_3 : decode cX5_tableOf 3 = .ok (.invokevirtual 127, 3) := by decide +kernel
theorem dX5_tableOf_6 : decode cX5_tableOf 6 = .ok (.ifCond .eq 7, 3) := by decide +kernel
theorem dX5_tableOf_9 : decode cX5_tableOf 9 = .ok (.iconst 0, 1) := by decide +kernel
theorem dX5_tableOf_10 : decode cX5_tableOf 10 = .ok (.goto 4, 3) := by decide +kernel
theorem dX5_tableOf_13 : decode cX5_tableOf 13 = .ok (.iconst 1, 1) := by decide +kernel
theorem dX5_tableOf_14 : decode cX5_tableOf 14 = .ok (.invokevirtual 99, 3) := by decide +kernel
theorem dX5_tableOf_17 : decode cX5_tableOf 17 = .ok (.ifCond .ne 5, 3) := by decide +kernel
theorem dX5_tableOf_20 : decode cX5_tableOf 20 = .ok (.iconst 0, 1) := by decide +kernel
theorem dX5_tableOf_21 : decode cX5_tableOf 21 = .ok (.ireturn, 1) := by decide +kernel
theorem dX5_tableOf_22 : decode cX5_tableOf 22 = .ok (.iconst 0, 1) := by decide +kernel
theorem dX5_tableOf_23 : decode cX5_tableOf 23 = .ok (.istore_n 2, 1) := by decide +kernel
theorem dX5_tableOf_24 : decode cX5_tableOf 24 = .ok (.iload_n 2, 1) := by decide +kernel
theorem dX5_tableOf_25 : decode cX5_tableOf 25 = .ok (.aload_n 0, 1) := by decide +kernel
theorem dX5_tableOf_26 : decode cX5_tableOf 26 = .ok (.getfield 103, 3) := by decide +kernel
theorem dX5_tableOf_29 : decode cX5_tableOf 29 = .ok (.if_icmp .ge 21, 3) := by decide +kernel
theorem dX5_tableOf_32 : decode cX5_tableOf 32 = .ok (.aload_n 0, 1) := by decide +kernel
theorem dX5_tableOf_33 : decode cX5_tableOf 33 = .ok (.getfield 13, 3) := by decide +kernel
theorem dX5_tableOf_36 : decode cX5_tableOf 36 = .ok (.iload_n 2, 1) := by decide +kernel
theorem dX5_tableOf_37 : decode cX5_tableOf 37 = .ok (.iaload, 1) := by decide +kernel
theorem dX5_tableOf_38 : decode cX5_tableOf 38 = .ok (.iload_n 1, 1) := by decide +kernel
theorem dX5_tableOf_39 : decode cX5_tableOf 39 = .ok (.if_icmp .ne 5, 3) := by decide +kernel
theorem dX5_tableOf_42 : decode cX5_tableOf 42 = .ok (.iload_n 2, 1) := by decide +kernel
theorem dX5_tableOf_43 : decode cX5_tableOf 43 = .ok (.ireturn, 1) := by decide +kernel
theorem dX5_tableOf_44 : decode cX5_tableOf 44 = .ok (.iinc 2 1, 3) := by decide +kernel
theorem dX5_tableOf_47 : decode cX5_tableOf 47 = .ok (.goto (-23), 3) := by decide +kernel
theorem dX5_tableOf_50 : decode cX5_tableOf 50 = .ok (.iconst (-1), 1) := by decide +kernel
theorem dX5_tableOf_51 : decode cX5_tableOf 51 = .ok (.ireturn, 1) := by decide +kernel
set_option maxRecDepth 20000 in
theorem ggX5_tablesOf_X5_isGroup : GoodIn wsX5_tablesOf wsX5_isGroup := goodIn_r _ [7, 8, 9, 10, 6, 11, 17, 18, 19, 20, 21, 22, 23, 24, 25, 26, 27, 28, 29, 30, 31, 32, 33, 34, 35, 36, 37, 38, 39, 40, 41, 42, 43, 44, 45, 46, 47, 48, 49] (by decide +kernel) (by decide +kernel)
set_option maxRecDepth 20000 in
theorem gX5_tablesOf_X5_isGroup : GoodIn wsX5_tablesOf (wsV RX5 127 RX5 yX5_isGroup wsX5_isGroup) := goodIn_app (goodIn_of _ (by decide +kernel)) ggX5_tablesOf_X5_isGroup
set_option maxRecDepth 20000 in
theorem ggX5_tablesOf_X5_isFine : GoodIn wsX5_tablesOf wsX5_isFine := goodIn_r _ [15, 16, 17, 18, 19, 20, 21, 22, 23, 24, 25, 26, 27, 28, 29, 30, 31, 32, 33, 34, 35, 36, 37, 38, 39, 40, 41, 42, 43, 44, 45, 46, 47, 48, 49] (by decide +kernel) (by decide +kernel)
set_option maxRecDepth 20000 in
theorem gX5_tablesOf_X5_isFine : GoodIn wsX5_tablesOf (wsV RX5 99 RX5 yX5_isFine wsX5_isFine) := goodIn_app (goodIn_of _ (by decide +kernel)) ggX5_tablesOf_X5_isFine
theorem dX5_tablesOf_0 : decode cX5_tablesOf 0 = .ok (.aload_n 0, 1) := by decide +kernel
theorem dX5_tablesOf_1 : decode cX5_tablesOf 1 = .ok (.aload_n 0, 1) := by decide +kernel
theorem dX5_tablesOf_2 : decode cX5_tablesOf 2 = .ok (.iload_n 1, 1) := by decide +kernel
theorem dX5_tablesOf_3 : decode cX5_tablesOf 3 = .ok (.invokevirtual 127, 3) := by decide +kernel
theorem dX5_tablesOf_6 : decode cX5_tablesOf 6 = .ok (.ifCond .eq 7, 3) := by decide +kernel
theorem dX5_tablesOf_9 : decode cX5_tablesOf 9 = .ok (.iconst 0, 1) := by decide +kernel
theorem dX5_tablesOf_10 : decode cX5_tablesOf 10 = .ok (.goto 4, 3) := by decide +kernel
theorem dX5_tablesOf_13 : decode cX5_tablesOf 13 = .ok (.iconst 1, 1) := by decide +kernel
theorem dX5_tablesOf_14 : decode cX5_tablesOf 14 = .ok (.invokevirtual 99, 3) := by decide +kernel
theorem dX5_tablesOf_17 : decode cX5_tablesOf 17 = .ok (.ifCond .ne 5, 3) := by decide +kernel
theorem dX5_tablesOf_20 : decode cX5_tablesOf 20 = .ok (.iconst 0, 1) := by decide +kernel
theorem dX5_tablesOf_21 : decode cX5_tablesOf 21 = .ok (.ireturn, 1) := by decide +kernel
theorem dX5_tablesOf_22 : decode cX5_tablesOf 22 = .ok (.iconst 0, 1) := by decide +kernel
theorem dX5_tablesOf_23 : decode cX5_tablesOf 23 = .ok (.istore_n 2, 1) := by decide +kernel
theorem dX5_tablesOf_24 : decode cX5_tablesOf 24 = .ok (.iconst 0, 1) := by decide +kernel
theorem dX5_tablesOf_25 : decode cX5_tablesOf 25 = .ok (.istore_n 3, 1) := by decide +kernel
theorem dX5_tablesOf_26 : decode cX5_tablesOf 26 = .ok (.iload_n 3, 1) := by decide +kernel
theorem dX5_tablesOf_27 : decode cX5_tablesOf 27 = .ok (.aload_n 0, 1) := by decide +kernel
theorem dX5_tablesOf_28 : decode cX5_tablesOf 28 = .ok (.getfield 103, 3) := by decide +kernel
theorem dX5_tablesOf_31 : decode cX5_tablesOf 31 = .ok (.if_icmp .ge 27, 3) := by decide +kernel
theorem dX5_tablesOf_34 : decode cX5_tablesOf 34 = .ok (.iload_n 2, 1) := by decide +kernel
theorem dX5_tablesOf_35 : decode cX5_tablesOf 35 = .ok (.aload_n 0, 1) := by decide +kernel
theorem dX5_tablesOf_36 : decode cX5_tablesOf 36 = .ok (.getfield 13, 3) := by decide +kernel
theorem dX5_tablesOf_39 : decode cX5_tablesOf 39 = .ok (.iload_n 3, 1) := by decide +kernel
theorem dX5_tablesOf_40 : decode cX5_tablesOf 40 = .ok (.iaload, 1) := by decide +kernel
theorem dX5_tablesOf_41 : decode cX5_tablesOf 41 = .ok (.iload_n 1, 1) := by decide +kernel
theorem dX5_tablesOf_42 : decode cX5_tablesOf 42 = .ok (.if_icmp .ne 7, 3) := by decide +kernel
theorem dX5_tablesOf_45 : decode cX5_tablesOf 45 = .ok (.iconst 1, 1) := by decide +kernel
theorem dX5_tablesOf_46 : decode cX5_tablesOf 46 = .ok (.goto 4, 3) := by decide +kernel
theorem dX5_tablesOf_49 : decode cX5_tablesOf 49 = .ok (.iconst 0, 1) := by decide +kernel
theorem dX5_tablesOf_50 : decode cX5_tablesOf 50 = .ok (.iadd, 1) := by decide +kernel
theorem dX5_tablesOf_51 : decode cX5_tablesOf 51 = .ok (.istore_n 2, 1) := by decide +kernel
theorem dX5_tablesOf_52 : decode cX5_tablesOf 52 = .ok (.iinc 3 1, 3) := by decide +kernel
theorem dX5_tablesOf_55 : decode cX5_tablesOf 55 = .ok (.goto (-29), 3) := by decide +kernel
theorem dX5_tablesOf_58 : decode cX5_tablesOf 58 = .ok (.iload_n 2, 1) := by decide +kernel
theorem dX5_tablesOf_59 : decode cX5_tablesOf 59 = .ok (.ireturn, 1) := by decide +kernel
theorem dX5_waiting_0 : decode cX5_waiting 0 = .ok (.aload_n 0, 1) := by decide +kernel
theorem dX5_waiting_1 : decode cX5_waiting 1 = .ok (.iconst 0, 1) := by decide +kernel
theorem dX5_waiting_2 : decode cX5_waiting 2 = .ok (.putfield 79, 3) := by decide +kernel
theorem dX5_waiting_5 : decode cX5_waiting 5 = .ok (.iconst 0, 1) := by decide +kernel
theorem dX5_waiting_6 : decode cX5_waiting 6 = .ok (.istore_n 1, 1) := by decide +kernel
theorem dX5_waiting_7 : decode cX5_waiting 7 = .ok (.iconst 0, 1) := by decide +kernel
theorem dX5_waiting_8 : decode cX5_waiting 8 = .ok (.istore_n 2, 1) := by decide +kernel
theorem dX5_waiting_9 : decode cX5_waiting 9 = .ok (.iload_n 2, 1) := by decide +kernel
theorem dX5_waiting_10 : decode cX5_waiting 10 = .ok (.aload_n 0, 1) := by decide +kernel
theorem dX5_waiting_11 : decode cX5_waiting 11 = .ok (.getfield 93, 3) := by decide +kernel
theorem dX5_waiting_14 : decode cX5_waiting 14 = .ok (.if_icmp .ge 26, 3) := by decide +kernel
theorem dX5_waiting_17 : decode cX5_waiting 17 = .ok (.iload_n 1, 1) := by decide +kernel
theorem dX5_waiting_18 : decode cX5_waiting 18 = .ok (.aload_n 0, 1) := by decide +kernel
theorem dX5_waiting_19 : decode cX5_waiting 19 = .ok (.getfield 22, 3) := by decide +kernel
theorem dX5_waiting_22 : decode cX5_waiting 22 = .ok (.iload_n 2, 1) := by decide +kernel
theorem dX5_waiting_23 : decode cX5_waiting 23 = .ok (.iaload, 1) := by decide +kernel
theorem dX5_waiting_24 : decode cX5_waiting 24 = .ok (.ifCond .ne 7, 3) := by decide +kernel
theorem dX5_waiting_27 : decode cX5_waiting 27 = .ok (.iconst 1, 1) := by decide +kernel
theorem dX5_waiting_28 : decode cX5_waiting 28 = .ok (.goto 4, 3) := by decide +kernel
theorem dX5_waiting_31 : decode cX5_waiting 31 = .ok (.iconst 0, 1) := by decide +kernel
theorem dX5_waiting_32 : decode cX5_waiting 32 = .ok (.iadd, 1) := by decide +kernel
theorem dX5_waiting_33 : decode cX5_waiting 33 = .ok (.istore_n 1, 1) := by decide +kernel
theorem dX5_waiting_34 : decode cX5_waiting 34 = .ok (.iinc 2 1, 3) := by decide +kernel
theorem dX5_waiting_37 : decode cX5_waiting 37 = .ok (.goto (-28), 3) := by decide +kernel
theorem dX5_waiting_40 : decode cX5_waiting 40 = .ok (.iload_n 1, 1) := by decide +kernel
theorem dX5_waiting_41 : decode cX5_waiting 41 = .ok (.ireturn, 1) := by decide +kernel
set_option maxRecDepth 20000 in
theorem ggX5_wasteNow_X5_isIn : GoodIn wsX5_wasteNow wsX5_isIn := goodIn_r _ [6] (by decide +kernel) (by decide +kernel)
set_option maxRecDepth 20000 in
theorem gX5_wasteNow_X5_isIn : GoodIn wsX5_wasteNow (va_wsS RX5 86 yX5_isIn wsX5_isIn) := goodIn_app (goodIn_of _ (by decide +kernel)) ggX5_wasteNow_X5_isIn
set_option maxRecDepth 20000 in
theorem ggX5_wasteNow_X5_isFine : GoodIn wsX5_wasteNow wsX5_isFine := goodIn_r _ [10, 2, 20, 21, 22, 23, 24, 25, 26, 27, 28, 29, 30, 31, 32, 33, 34, 35, 36, 37, 38, 39, 40, 41, 42, 43, 44, 45, 46, 47, 48, 49, 50, 51, 52] (by decide +kernel) (by decide +kernel)
set_option maxRecDepth 20000 in
theorem gX5_wasteNow_X5_isFine : GoodIn wsX5_wasteNow (wsV RX5 99 RX5 yX5_isFine wsX5_isFine) := goodIn_app (goodIn_of _ (by decide +kernel)) ggX5_wasteNow_X5_isFine
set_option maxRecDepth 20000 in
theorem ggX5_wasteNow_X5_finds : GoodIn wsX5_wasteNow wsX5_finds := goodIn_r _ [14, 1, 15, 16, 17, 18, 19, 20, 21, 22, 23, 24, 25, 26, 27, 28, 29, 30, 31, 32, 33, 34, 35, 36, 37, 38, 39, 40, 41, 42, 43, 44, 45, 46, 47, 48, 49, 50, 51, 52] (by decide +kernel) (by decide +kernel)
set_option maxRecDepth 20000 in
theorem gX5_wasteNow_X5_finds : GoodIn wsX5_wasteNow (wsV RX5 121 RX5 yX5_finds wsX5_finds) := goodIn_app (goodIn_of _ (by decide +kernel)) ggX5_wasteNow_X5_finds
theorem dX5_wasteNow_0 : decode cX5_wasteNow 0 = .ok (.aload_n 0, 1) := by decide +kernel
theorem dX5_wasteNow_1 : decode cX5_wasteNow 1 = .ok (.iload_n 1, 1) := by decide +kernel
theorem dX5_wasteNow_2 : decode cX5_wasteNow 2 = .ok (.iconst 1, 1) := by decide +kernel
theorem dX5_wasteNow_3 : decode cX5_wasteNow 3 = .ok (.bipush 12, 2) := by decide +kernel
theorem dX5_wasteNow_5 : decode cX5_wasteNow 5 = .ok (.invokestatic 86, 3) := by decide +kernel
theorem dX5_wasteNow_8 : decode cX5_wasteNow 8 = .ok (.ifCond .eq 7, 3) := by decide +kernel
theorem dX5_wasteNow_11 : decode cX5_wasteNow 11 = .ok (.iconst 0, 1) := by decide +kernel
theorem dX5_wasteNow_12 : decode cX5_wasteNow 12 = .ok (.goto 4, 3) := by decide +kernel
theorem dX5_wasteNow_15 : decode cX5_wasteNow 15 = .ok (.iconst 1, 1) := by decide +kernel
theorem dX5_wasteNow_16 : decode cX5_wasteNow 16 = .ok (.invokevirtual 99, 3) := by decide +kernel
theorem dX5_wasteNow_19 : decode cX5_wasteNow 19 = .ok (.ifCond .eq 18, 3) := by decide +kernel
theorem dX5_wasteNow_22 : decode cX5_wasteNow 22 = .ok (.aload_n 0, 1) := by decide +kernel
theorem dX5_wasteNow_23 : decode cX5_wasteNow 23 = .ok (.iload_n 1, 1) := by decide +kernel
theorem dX5_wasteNow_24 : decode cX5_wasteNow 24 = .ok (.invokevirtual 121, 3) := by decide +kernel
theorem dX5_wasteNow_27 : decode cX5_wasteNow 27 = .ok (.ifCond .eq 10, 3) := by decide +kernel
theorem dX5_wasteNow_30 : decode cX5_wasteNow 30 = .ok (.aload_n 0, 1) := by decide +kernel
theorem dX5_wasteNow_31 : decode cX5_wasteNow 31 = .ok (.getfield 112, 3) := by decide +kernel
theorem dX5_wasteNow_34 : decode cX5_wasteNow 34 = .ok (.goto 15, 3) := by decide +kernel
theorem dX5_wasteNow_37 : decode cX5_wasteNow 37 = .ok (.aload_n 0, 1) := by decide +kernel
theorem dX5_wasteNow_38 : decode cX5_wasteNow 38 = .ok (.getfield 79, 3) := by decide +kernel
theorem dX5_wasteNow_41 : decode cX5_wasteNow 41 = .ok (.ifCond .le 7, 3) := by decide +kernel
theorem dX5_wasteNow_44 : decode cX5_wasteNow 44 = .ok (.iconst 0, 1) := by decide +kernel
theorem dX5_wasteNow_45 : decode cX5_wasteNow 45 = .ok (.goto 4, 3) := by decide +kernel
theorem dX5_wasteNow_48 : decode cX5_wasteNow 48 = .ok (.iconst (-1), 1) := by decide +kernel
theorem dX5_wasteNow_49 : decode cX5_wasteNow 49 = .ok (.ireturn, 1) := by decide +kernel
set_option maxRecDepth 20000 in
theorem ggX5_waste_X5_wasteNow : GoodIn wsX5_waste wsX5_wasteNow := goodIn_r _ [5, 6, 7, 8, 9, 4, 10, 11, 12, 13, 14, 15, 16, 17, 18, 19, 20, 21, 22, 23, 24, 25, 26, 27, 28, 29, 30, 31, 32, 33, 34, 35, 36, 37, 38, 39, 40, 41, 42, 43, 44, 45, 46, 47, 48, 49, 50, 51, 52, 53, 54, 55, 56] (by decide +kernel) (by decide +kernel)
set_option maxRecDepth 20000 in
theorem gX5_waste_X5_wasteNow : GoodIn wsX5_waste (wsV RX5 130 RX5 yX5_wasteNow wsX5_wasteNow) := goodIn_app (goodIn_of _ (by decide +kernel)) ggX5_waste_X5_wasteNow
theorem dX5_waste_0 : decode cX5_waste 0 = .ok (.aload_n 0, 1) := by decide +kernel
theorem dX5_waste_1 : decode cX5_waste 1 = .ok (.iload_n 1, 1) := by decide +kernel
theorem dX5_waste_2 : decode cX5_waste 2 = .ok (.invokevirtual 130, 3) := by decide +kernel
theorem dX5_waste_5 : decode cX5_waste 5 = .ok (.ireturn, 1) := by decide +kernel
set_option maxRecDepth 20000 in
theorem ggX5_wasteByAll_X5_wasteNow : GoodIn wsX5_wasteByAll wsX5_wasteNow := goodIn_r _ [5, 6, 7, 8, 9, 4, 10, 11, 12, 13, 14, 15, 16, 17, 18, 19, 20, 21, 22, 23, 24, 25, 26, 27, 28, 29, 30, 31, 32, 33, 34, 35, 36, 37, 38, 39, 40, 41, 42, 43, 44, 45, 46, 47, 48, 49, 50, 51, 52, 53, 54, 55, 56] (by decide +kernel) (by decide +kernel)
set_option maxRecDepth 20000 in
theorem gX5_wasteByAll_X5_wasteNow : GoodIn wsX5_wasteByAll (wsV RX5 130 RX5 yX5_wasteNow wsX5_wasteNow) := goodIn_app (goodIn_of _ (by decide +kernel)) ggX5_wasteByAll_X5_wasteNow
theorem dX5_wasteByAll_0 : decode cX5_wasteByAll 0 = .ok (.aload_n 0, 1) := by decide +kernel
theorem dX5_wasteByAll_1 : decode cX5_wasteByAll 1 = .ok (.iload_n 1, 1) := by decide +kernel
theorem dX5_wasteByAll_2 : decode cX5_wasteByAll 2 = .ok (.invokevirtual 130, 3) := by decide +kernel
theorem dX5_wasteByAll_5 : decode cX5_wasteByAll 5 = .ok (.ireturn, 1) := by decide +kernel
theorem dX5_leftOf_0 : decode cX5_leftOf 0 = .ok (.aload_n 0, 1) := by decide +kernel
theorem dX5_leftOf_1 : decode cX5_leftOf 1 = .ok (.getfield 25, 3) := by decide +kernel
theorem dX5_leftOf_4 : decode cX5_leftOf 4 = .ok (.iload_n 1, 1) := by decide +kernel
theorem dX5_leftOf_5 : decode cX5_leftOf 5 = .ok (.iaload, 1) := by decide +kernel
theorem dX5_leftOf_6 : decode cX5_leftOf 6 = .ok (.aload_n 0, 1) := by decide +kernel
theorem dX5_leftOf_7 : decode cX5_leftOf 7 = .ok (.getfield 19, 3) := by decide +kernel
theorem dX5_leftOf_10 : decode cX5_leftOf 10 = .ok (.iload_n 1, 1) := by decide +kernel
theorem dX5_leftOf_11 : decode cX5_leftOf 11 = .ok (.iaload, 1) := by decide +kernel
theorem dX5_leftOf_12 : decode cX5_leftOf 12 = .ok (.iadd, 1) := by decide +kernel
theorem dX5_leftOf_13 : decode cX5_leftOf 13 = .ok (.aload_n 0, 1) := by decide +kernel
theorem dX5_leftOf_14 : decode cX5_leftOf 14 = .ok (.getfield 96, 3) := by decide +kernel
theorem dX5_leftOf_17 : decode cX5_leftOf 17 = .ok (.isub, 1) := by decide +kernel
theorem dX5_leftOf_18 : decode cX5_leftOf 18 = .ok (.istore_n 2, 1) := by decide +kernel
theorem dX5_leftOf_19 : decode cX5_leftOf 19 = .ok (.iload_n 2, 1) := by decide +kernel
theorem dX5_leftOf_20 : decode cX5_leftOf 20 = .ok (.ifCond .ge 7, 3) := by decide +kernel
theorem dX5_leftOf_23 : decode cX5_leftOf 23 = .ok (.iconst 0, 1) := by decide +kernel
theorem dX5_leftOf_24 : decode cX5_leftOf 24 = .ok (.goto 4, 3) := by decide +kernel
theorem dX5_leftOf_27 : decode cX5_leftOf 27 = .ok (.iload_n 2, 1) := by decide +kernel
theorem dX5_leftOf_28 : decode cX5_leftOf 28 = .ok (.ireturn, 1) := by decide +kernel
set_option maxRecDepth 20000 in
theorem ggX5_left_X5_isGroup : GoodIn wsX5_left wsX5_isGroup := goodIn_r _ [6, 7, 8, 9, 5, 10, 23, 24, 25, 26, 27, 28, 29, 30, 31, 32, 33, 34, 35, 36, 37, 38, 39, 40, 41, 42, 43, 44, 45, 46, 47, 48, 49, 50, 51, 52, 53, 54, 55] (by decide +kernel) (by decide +kernel)
set_option maxRecDepth 20000 in
theorem gX5_left_X5_isGroup : GoodIn wsX5_left (wsV RX5 127 RX5 yX5_isGroup wsX5_isGroup) := goodIn_app (goodIn_of _ (by decide +kernel)) ggX5_left_X5_isGroup
set_option maxRecDepth 20000 in
theorem ggX5_left_X5_isFine : GoodIn wsX5_left wsX5_isFine := goodIn_r _ [14, 15, 23, 24, 25, 26, 27, 28, 29, 30, 31, 32, 33, 34, 35, 36, 37, 38, 39, 40, 41, 42, 43, 44, 45, 46, 47, 48, 49, 50, 51, 52, 53, 54, 55] (by decide +kernel) (by decide +kernel)
set_option maxRecDepth 20000 in
theorem gX5_left_X5_isFine : GoodIn wsX5_left (wsV RX5 99 RX5 yX5_isFine wsX5_isFine) := goodIn_app (goodIn_of _ (by decide +kernel)) ggX5_left_X5_isFine
set_option maxRecDepth 20000 in
theorem ggX5_left_X5_leftOf : GoodIn wsX5_left wsX5_leftOf := goodIn_r _ [19, 20, 21, 22, 23, 24, 25, 26, 27, 28, 29, 30, 31, 32, 33, 34, 35, 36, 37, 38, 39, 40, 41, 42, 43, 44, 45, 46, 47, 48, 49, 50, 51, 52, 53, 54, 55] (by decide +kernel) (by decide +kernel)
set_option maxRecDepth 20000 in
theorem gX5_left_X5_leftOf : GoodIn wsX5_left (wsV RX5 134 RX5 yX5_leftOf wsX5_leftOf) := goodIn_app (goodIn_of _ (by decide +kernel)) ggX5_left_X5_leftOf
theorem dX5_left_0 : decode cX5_left 0 = .ok (.aload_n 0, 1) := by decide +kernel
theorem dX5_left_1 : decode cX5_left 1 = .ok (.iload_n 1, 1) := by decide +kernel
theorem dX5_left_2 : decode cX5_left 2 = .ok (.invokevirtual 127, 3) := by decide +kernel
theorem dX5_left_5 : decode cX5_left 5 = .ok (.istore_n 2, 1) := by decide +kernel
theorem dX5_left_6 : decode cX5_left 6 = .ok (.aload_n 0, 1) := by decide +kernel
theorem dX5_left_7 : decode cX5_left 7 = .ok (.iload_n 2, 1) := by decide +kernel
theorem dX5_left_8 : decode cX5_left 8 = .ok (.ifCond .ne 7, 3) := by decide +kernel
theorem dX5_left_11 : decode cX5_left 11 = .ok (.iconst 1, 1) := by decide +kernel
theorem dX5_left_12 : decode cX5_left 12 = .ok (.goto 18, 3) := by decide +kernel
theorem dX5_left_15 : decode cX5_left 15 = .ok (.aload_n 0, 1) := by decide +kernel
theorem dX5_left_16 : decode cX5_left 16 = .ok (.getfield 22, 3) := by decide +kernel
theorem dX5_left_19 : decode cX5_left 19 = .ok (.iload_n 1, 1) := by decide +kernel
theorem dX5_left_20 : decode cX5_left 20 = .ok (.iaload, 1) := by decide +kernel
theorem dX5_left_21 : decode cX5_left 21 = .ok (.iconst 1, 1) := by decide +kernel
theorem dX5_left_22 : decode cX5_left 22 = .ok (.if_icmp .eq 7, 3) := by decide +kernel
theorem dX5_left_25 : decode cX5_left 25 = .ok (.iconst 2, 1) := by decide +kernel
theorem dX5_left_26 : decode cX5_left 26 = .ok (.goto 4, 3) := by decide +kernel
theorem dX5_left_29 : decode cX5_left 29 = .ok (.iconst 0, 1) := by decide +kernel
theorem dX5_left_30 : decode cX5_left 30 = .ok (.invokevirtual 99, 3) := by decide +kernel
theorem dX5_left_33 : decode cX5_left 33 = .ok (.ifCond .eq 11, 3) := by decide +kernel
theorem dX5_left_36 : decode cX5_left 36 = .ok (.aload_n 0, 1) := by decide +kernel
theorem dX5_left_37 : decode cX5_left 37 = .ok (.iload_n 1, 1) := by decide +kernel
theorem dX5_left_38 : decode cX5_left 38 = .ok (.invokevirtual 134, 3) := by decide +kernel
theorem dX5_left_41 : decode cX5_left 41 = .ok (.goto 4, 3) := by decide +kernel
theorem dX5_left_44 : decode cX5_left 44 = .ok (.iconst 0, 1) := by decide +kernel
theorem dX5_left_45 : decode cX5_left 45 = .ok (.ireturn, 1) := by decide +kernel
theorem dX5_makes_0 : decode cX5_makes 0 = .ok (.iconst 0, 1) := by decide +kernel
theorem dX5_makes_1 : decode cX5_makes 1 = .ok (.istore_n 2, 1) := by decide +kernel
theorem dX5_makes_2 : decode cX5_makes 2 = .ok (.iconst 0, 1) := by decide +kernel
theorem dX5_makes_3 : decode cX5_makes 3 = .ok (.istore_n 3, 1) := by decide +kernel
theorem dX5_makes_4 : decode cX5_makes 4 = .ok (.iload_n 3, 1) := by decide +kernel
theorem dX5_makes_5 : decode cX5_makes 5 = .ok (.iconst 4, 1) := by decide +kernel
theorem dX5_makes_6 : decode cX5_makes 6 = .ok (.if_icmp .ge 161, 3) := by decide +kernel
theorem dX5_makes_9 : decode cX5_makes 9 = .ok (.aload_n 0, 1) := by decide +kernel
theorem dX5_makes_10 : decode cX5_makes 10 = .ok (.getfield 40, 3) := by decide +kernel
theorem dX5_makes_13 : decode cX5_makes 13 = .ok (.iconst 4, 1) := by decide +kernel
theorem dX5_makes_14 : decode cX5_makes 14 = .ok (.aload_n 0, 1) := by decide +kernel
theorem dX5_makes_15 : decode cX5_makes 15 = .ok (.getfield 43, 3) := by decide +kernel
theorem dX5_makes_18 : decode cX5_makes 18 = .ok (.iload_n 1, 1) := by decide +kernel
theorem dX5_makes_19 : decode cX5_makes 19 = .ok (.iaload, 1) := by decide +kernel
theorem dX5_makes_20 : decode cX5_makes 20 = .ok (.imul, 1) := by decide +kernel
theorem dX5_makes_21 : decode cX5_makes 21 = .ok (.iload_n 3, 1) := by decide +kernel
theorem dX5_makes_22 : decode cX5_makes 22 = .ok (.iadd, 1) := by decide +kernel
theorem dX5_makes_23 : decode cX5_makes 23 = .ok (.iaload, 1) := by decide +kernel
theorem dX5_makes_24 : decode cX5_makes 24 = .ok (.aload_n 0, 1) := by decide +kernel
theorem dX5_makes_25 : decode cX5_makes 25 = .ok (.getfield 49, 3) := by decide +kernel
theorem dX5_makes_28 : decode cX5_makes 28 = .ok (.iconst 4, 1) := by decide +kernel
theorem dX5_makes_29 : decode cX5_makes 29 = .ok (.iload_n 1, 1) := by decide +kernel
theorem dX5_makes_30 : decode cX5_makes 30 = .ok (.imul, 1) := by decide +kernel
theorem dX5_makes_31 : decode cX5_makes 31 = .ok (.iload_n 3, 1) := by decide +kernel
theorem dX5_makes_32 : decode cX5_makes 32 = .ok (.iadd, 1) := by decide +kernel
theorem dX5_makes_33 : decode cX5_makes 33 = .ok (.iaload, 1) := by decide +kernel
theorem dX5_makes_34 : decode cX5_makes 34 = .ok (.isub, 1) := by decide +kernel
theorem dX5_makes_35 : decode cX5_makes 35 = .ok (.istore 4, 2) := by decide +kernel
theorem dX5_makes_37 : decode cX5_makes 37 = .ok (.iconst 0, 1) := by decide +kernel
theorem dX5_makes_38 : decode cX5_makes 38 = .ok (.istore 5, 2) := by decide +kernel
theorem dX5_makes_40 : decode cX5_makes 40 = .ok (.iload 5, 2) := by decide +kernel
theorem dX5_makes_42 : decode cX5_makes 42 = .ok (.aload_n 0, 1) := by decide +kernel
theorem dX5_makes_43 : decode cX5_makes 43 = .ok (.getfield 90, 3) := by decide +kernel
theorem dX5_makes_46 : decode cX5_makes 46 = .ok (.if_icmp .ge 108, 3) := by decide +kernel
theorem dX5_makes_49 : decode cX5_makes 49 = .ok (.iload 4, 2) := by decide +kernel
theorem dX5_makes_51 : decode cX5_makes 51 = .ok (.ifCond .le 103, 3) := by decide +kernel
theorem dX5_makes_54 : decode cX5_makes 54 = .ok (.iload 5, 2) := by decide +kernel
theorem dX5_makes_56 : decode cX5_makes 56 = .ok (.iload_n 1, 1) := by decide +kernel
theorem dX5_makes_57 : decode cX5_makes 57 = .ok (.if_icmp .eq 47, 3) := by decide +kernel
theorem dX5_makes_60 : decode cX5_makes 60 = .ok (.aload_n 0, 1) := by decide +kernel
theorem dX5_makes_61 : decode cX5_makes 61 = .ok (.getfield 43, 3) := by decide +kernel
theorem dX5_makes_64 : decode cX5_makes 64 = .ok (.iload 5, 2) := by decide +kernel
theorem dX5_makes_66 : decode cX5_makes 66 = .ok (.iaload, 1) := by decide +kernel
theorem dX5_makes_67 : decode cX5_makes 67 = .ok (.aload_n 0, 1) := by decide +kernel
theorem dX5_makes_68 : decode cX5_makes 68 = .ok (.getfield 43, 3) := by decide +kernel
theorem dX5_makes_71 : decode cX5_makes 71 = .ok (.iload_n 1, 1) := by decide +kernel
theorem dX5_makes_72 : decode cX5_makes 72 = .ok (.iaload, 1) := by decide +kernel
theorem dX5_makes_73 : decode cX5_makes 73 = .ok (.if_icmp .ne 31, 3) := by decide +kernel
theorem dX5_makes_76 : decode cX5_makes 76 = .ok (.aload_n 0, 1) := by decide +kernel
theorem dX5_makes_77 : decode cX5_makes 77 = .ok (.getfield 46, 3) := by decide +kernel
theorem dX5_makes_80 : decode cX5_makes 80 = .ok (.iload 5, 2) := by decide +kernel
theorem dX5_makes_82 : decode cX5_makes 82 = .ok (.iaload, 1) := by decide +kernel
theorem dX5_makes_83 : decode cX5_makes 83 = .ok (.ifCond .ne 21, 3) := by decide +kernel
theorem dX5_makes_86 : decode cX5_makes 86 = .ok (.aload_n 0, 1) := by decide +kernel
theorem dX5_makes_87 : decode cX5_makes 87 = .ok (.getfield 49, 3) := by decide +kernel
theorem dX5_makes_90 : decode cX5_makes 90 = .ok (.iconst 4, 1) := by decide +kernel
theorem dX5_makes_91 : decode cX5_makes 91 = .ok (.iload 5, 2) := by decide +kernel
theorem dX5_makes_93 : decode cX5_makes 93 = .ok (.imul, 1) := by decide +kernel
theorem dX5_makes_94 : decode cX5_makes 94 = .ok (.iload_n 3, 1) := by decide +kernel
theorem dX5_makes_95 : decode cX5_makes 95 = .ok (.iadd, 1) := by decide +kernel
theorem dX5_makes_96 : decode cX5_makes 96 = .ok (.iaload, 1) := by decide +kernel
theorem dX5_makes_97 : decode cX5_makes 97 = .ok (.ifCond .le 7, 3) := by decide +kernel
theorem dX5_makes_100 : decode cX5_makes 100 = .ok (.iconst 1, 1) := by decide +kernel
theorem dX5_makes_101 : decode cX5_makes 101 = .ok (.goto 4, 3) := by decide +kernel
theorem dX5_makes_104 : decode cX5_makes 104 = .ok (.iconst 0, 1) := by decide +kernel
theorem dX5_makes_105 : decode cX5_makes 105 = .ok (.istore 6, 2) := by decide +kernel
theorem dX5_makes_107 : decode cX5_makes 107 = .ok (.iload 4, 2) := by decide +kernel
theorem dX5_makes_109 : decode cX5_makes 109 = .ok (.iload 6, 2) := by decide +kernel
theorem dX5_makes_111 : decode cX5_makes 111 = .ok (.ifCond .eq 17, 3) := by decide +kernel
theorem dX5_makes_114 : decode cX5_makes 114 = .ok (.aload_n 0, 1) := by decide +kernel
theorem dX5_makes_115 : decode cX5_makes 115 = .ok (.getfield 49, 3) := by decide +kernel
theorem dX5_makes_118 : decode cX5_makes 118 = .ok (.iconst 4, 1) := by decide +kernel
theorem dX5_makes_119 : decode cX5_makes 119 = .ok (.iload 5, 2) := by decide +kernel
theorem dX5_makes_121 : decode cX5_makes 121 = .ok (.imul, 1) := by decide +kernel
theorem dX5_makes_122 : decode cX5_makes 122 = .ok (.iload_n 3, 1) := by decide +kernel
theorem dX5_makes_123 : decode cX5_makes 123 = .ok (.iadd, 1) := by decide +kernel
theorem dX5_makes_124 : decode cX5_makes 124 = .ok (.iaload, 1) := by decide +kernel
theorem dX5_makes_125 : decode cX5_makes 125 = .ok (.goto 4, 3) := by decide +kernel
theorem dX5_makes_128 : decode cX5_makes 128 = .ok (.iconst 0, 1) := by decide +kernel
theorem dX5_makes_129 : decode cX5_makes 129 = .ok (.isub, 1) := by decide +kernel
theorem dX5_makes_130 : decode cX5_makes 130 = .ok (.istore 4, 2) := by decide +kernel
theorem dX5_makes_132 : decode cX5_makes 132 = .ok (.iload_n 2, 1) := by decide +kernel
theorem dX5_makes_133 : decode cX5_makes 133 = .ok (.iload 6, 2) := by decide +kernel
theorem dX5_makes_135 : decode cX5_makes 135 = .ok (.ifCond .eq 10, 3) := by decide +kernel
theorem dX5_makes_138 : decode cX5_makes 138 = .ok (.iconst 1, 1) := by decide +kernel
theorem dX5_makes_139 : decode cX5_makes 139 = .ok (.iload 5, 2) := by decide +kernel
theorem dX5_makes_141 : decode cX5_makes 141 = .ok (.ishl, 1) := by decide +kernel
theorem dX5_makes_142 : decode cX5_makes 142 = .ok (.goto 4, 3) := by decide +kernel
theorem dX5_makes_145 : decode cX5_makes 145 = .ok (.iconst 0, 1) := by decide +kernel
theorem dX5_makes_146 : decode cX5_makes 146 = .ok (.ior, 1) := by decide +kernel
theorem dX5_makes_147 : decode cX5_makes 147 = .ok (.istore_n 2, 1) := by decide +kernel
theorem dX5_makes_148 : decode cX5_makes 148 = .ok (.iinc 5 1, 3) := by decide +kernel
theorem dX5_makes_151 : decode cX5_makes 151 = .ok (.goto (-111), 3) := by decide +kernel
theorem dX5_makes_154 : decode cX5_makes 154 = .ok (.iload 4, 2) := by decide +kernel
theorem dX5_makes_156 : decode cX5_makes 156 = .ok (.ifCond .le 5, 3) := by decide +kernel
theorem dX5_makes_159 : decode cX5_makes 159 = .ok (.iconst (-1), 1) := by decide +kernel
theorem dX5_makes_160 : decode cX5_makes 160 = .ok (.ireturn, 1) := by decide +kernel
theorem dX5_makes_161 : decode cX5_makes 161 = .ok (.iinc 3 1, 3) := by decide +kernel
theorem dX5_makes_164 : decode cX5_makes 164 = .ok (.goto (-160), 3) := by decide +kernel
theorem dX5_makes_167 : decode cX5_makes 167 = .ok (.iload_n 2, 1) := by decide +kernel
theorem dX5_makes_168 : decode cX5_makes 168 = .ok (.ireturn, 1) := by decide +kernel
theorem dX5_count_0 : decode cX5_count 0 = .ok (.iconst 0, 1) := by decide +kernel
theorem dX5_count_1 : decode cX5_count 1 = .ok (.istore_n 1, 1) := by decide +kernel
theorem dX5_count_2 : decode cX5_count 2 = .ok (.iconst 0, 1) := by decide +kernel
theorem dX5_count_3 : decode cX5_count 3 = .ok (.istore_n 2, 1) := by decide +kernel
theorem dX5_count_4 : decode cX5_count 4 = .ok (.iload_n 2, 1) := by decide +kernel
theorem dX5_count_5 : decode cX5_count 5 = .ok (.bipush 16, 2) := by decide +kernel
theorem dX5_count_7 : decode cX5_count 7 = .ok (.if_icmp .ge 17, 3) := by decide +kernel
theorem dX5_count_10 : decode cX5_count 10 = .ok (.iload_n 1, 1) := by decide +kernel
theorem dX5_count_11 : decode cX5_count 11 = .ok (.iload_n 0, 1) := by decide +kernel
theorem dX5_count_12 : decode cX5_count 12 = .ok (.iload_n 2, 1) := by decide +kernel
theorem dX5_count_13 : decode cX5_count 13 = .ok (.ishr, 1) := by decide +kernel
theorem dX5_count_14 : decode cX5_count 14 = .ok (.iconst 1, 1) := by decide +kernel
theorem dX5_count_15 : decode cX5_count 15 = .ok (.iand, 1) := by decide +kernel
theorem dX5_count_16 : decode cX5_count 16 = .ok (.iadd, 1) := by decide +kernel
theorem dX5_count_17 : decode cX5_count 17 = .ok (.istore_n 1, 1) := by decide +kernel
theorem dX5_count_18 : decode cX5_count 18 = .ok (.iinc 2 1, 3) := by decide +kernel
theorem dX5_count_21 : decode cX5_count 21 = .ok (.goto (-17), 3) := by decide +kernel
theorem dX5_count_24 : decode cX5_count 24 = .ok (.iload_n 1, 1) := by decide +kernel
theorem dX5_count_25 : decode cX5_count 25 = .ok (.ireturn, 1) := by decide +kernel
set_option maxRecDepth 20000 in
theorem ggX5_lendersOf_X5_makes : GoodIn wsX5_lendersOf wsX5_makes := goodIn_r _ [6, 7, 8, 9, 10, 1, 14, 15, 16, 17, 18, 19, 20, 21, 22, 23, 24, 25, 26, 27, 28, 29, 30, 31, 32, 33, 34, 35, 36, 37, 38, 39, 40, 41, 42, 43, 44, 45, 46] (by decide +kernel) (by decide +kernel)
set_option maxRecDepth 20000 in
theorem gX5_lendersOf_X5_makes : GoodIn wsX5_lendersOf (wsV RX5 137 RX5 yX5_makes wsX5_makes) := goodIn_app (goodIn_of _ (by decide +kernel)) ggX5_lendersOf_X5_makes
set_option maxRecDepth 20000 in
theorem ggX5_lendersOf_X5_count : GoodIn wsX5_lendersOf wsX5_count := goodIn_r _ [13] (by decide +kernel) (by decide +kernel)
set_option maxRecDepth 20000 in
theorem gX5_lendersOf_X5_count : GoodIn wsX5_lendersOf (va_wsS RX5 140 yX5_count wsX5_count) := goodIn_app (goodIn_of _ (by decide +kernel)) ggX5_lendersOf_X5_count
theorem dX5_lendersOf_0 : decode cX5_lendersOf 0 = .ok (.aload_n 0, 1) := by decide +kernel
theorem dX5_lendersOf_1 : decode cX5_lendersOf 1 = .ok (.getfield 46, 3) := by decide +kernel
theorem dX5_lendersOf_4 : decode cX5_lendersOf 4 = .ok (.iload_n 1, 1) := by decide +kernel
theorem dX5_lendersOf_5 : decode cX5_lendersOf 5 = .ok (.iaload, 1) := by decide +kernel
theorem dX5_lendersOf_6 : decode cX5_lendersOf 6 = .ok (.ifCond .ne 11, 3) := by decide +kernel
end
section
theorem dX5_lendersOf_9 : decode cX5_lendersOf 9 = .ok (.aload_n 0, 1) := by decide +kernel
theorem dX5_lendersOf_10 : decode cX5_lendersOf 10 = .ok (.iload_n 1, 1) := by decide +kernel
theorem dX5_lendersOf_11 : decode cX5_lendersOf 11 = .ok (.invokevirtual 137, 3) := by decide +kernel
theorem dX5_lendersOf_14 : decode cX5_lendersOf 14 = .ok (.goto 4, 3) := by decide +kernel
theorem dX5_lendersOf_17 : decode cX5_lendersOf 17 = .ok (.iconst (-1), 1) := by decide +kernel
theorem dX5_lendersOf_18 : decode cX5_lendersOf 18 = .ok (.istore_n 2, 1) := by decide +kernel
theorem dX5_lendersOf_19 : decode cX5_lendersOf 19 = .ok (.iload_n 2, 1) := by decide +kernel
theorem dX5_lendersOf_20 : decode cX5_lendersOf 20 = .ok (.iconst (-1), 1) := by decide +kernel
theorem dX5_lendersOf_21 : decode cX5_lendersOf 21 = .ok (.if_icmp .ne 7, 3) := by decide +kernel
theorem dX5_lendersOf_24 : decode cX5_lendersOf 24 = .ok (.iconst (-1), 1) := by decide +kernel
theorem dX5_lendersOf_25 : decode cX5_lendersOf 25 = .ok (.goto 7, 3) := by decide +kernel
theorem dX5_lendersOf_28 : decode cX5_lendersOf 28 = .ok (.iload_n 2, 1) := by decide +kernel
theorem dX5_lendersOf_29 : decode cX5_lendersOf 29 = .ok (.invokestatic 140, 3) := by decide +kernel
theorem dX5_lendersOf_32 : decode cX5_lendersOf 32 = .ok (.ireturn, 1) := by decide +kernel
set_option maxRecDepth 20000 in
theorem ggX5_bestCopy_X5_lendersOf : GoodIn wsX5_bestCopy wsX5_lendersOf := goodIn_r _ [7, 8, 9, 10, 11, 6, 12, 13, 2, 14, 1, 15, 16, 17, 18, 19, 20, 21, 22, 23, 24, 25, 26, 27, 28, 29, 30, 31, 32, 33, 34, 35, 36, 37, 38, 39, 40, 41, 42, 43, 44, 45, 46, 47, 48, 49, 50] (by decide +kernel) (by decide +kernel)
set_option maxRecDepth 20000 in
theorem gX5_bestCopy_X5_lendersOf : GoodIn wsX5_bestCopy (wsV RX5 143 RX5 yX5_lendersOf wsX5_lendersOf) := goodIn_app (goodIn_of _ (by decide +kernel)) ggX5_bestCopy_X5_lendersOf
theorem dX5_bestCopy_0 : decode cX5_bestCopy 0 = .ok (.iconst (-1), 1) := by decide +kernel
theorem dX5_bestCopy_1 : decode cX5_bestCopy 1 = .ok (.istore_n 2, 1) := by decide +kernel
theorem dX5_bestCopy_2 : decode cX5_bestCopy 2 = .ok (.iconst 0, 1) := by decide +kernel
theorem dX5_bestCopy_3 : decode cX5_bestCopy 3 = .ok (.istore_n 3, 1) := by decide +kernel
theorem dX5_bestCopy_4 : decode cX5_bestCopy 4 = .ok (.iload_n 3, 1) := by decide +kernel
theorem dX5_bestCopy_5 : decode cX5_bestCopy 5 = .ok (.aload_n 0, 1) := by decide +kernel
theorem dX5_bestCopy_6 : decode cX5_bestCopy 6 = .ok (.getfield 90, 3) := by decide +kernel
theorem dX5_bestCopy_9 : decode cX5_bestCopy 9 = .ok (.if_icmp .ge 57, 3) := by decide +kernel
theorem dX5_bestCopy_12 : decode cX5_bestCopy 12 = .ok (.aload_n 0, 1) := by decide +kernel
theorem dX5_bestCopy_13 : decode cX5_bestCopy 13 = .ok (.getfield 43, 3) := by decide +kernel
theorem dX5_bestCopy_16 : decode cX5_bestCopy 16 = .ok (.iload_n 3, 1) := by decide +kernel
theorem dX5_bestCopy_17 : decode cX5_bestCopy 17 = .ok (.iaload, 1) := by decide +kernel
theorem dX5_bestCopy_18 : decode cX5_bestCopy 18 = .ok (.iload_n 1, 1) := by decide +kernel
theorem dX5_bestCopy_19 : decode cX5_bestCopy 19 = .ok (.if_icmp .ne 11, 3) := by decide +kernel
theorem dX5_bestCopy_22 : decode cX5_bestCopy 22 = .ok (.aload_n 0, 1) := by decide +kernel
theorem dX5_bestCopy_23 : decode cX5_bestCopy 23 = .ok (.iload_n 3, 1) := by decide +kernel
theorem dX5_bestCopy_24 : decode cX5_bestCopy 24 = .ok (.invokevirtual 143, 3) := by decide +kernel
theorem dX5_bestCopy_27 : decode cX5_bestCopy 27 = .ok (.goto 4, 3) := by decide +kernel
theorem dX5_bestCopy_30 : decode cX5_bestCopy 30 = .ok (.iconst (-1), 1) := by decide +kernel
theorem dX5_bestCopy_31 : decode cX5_bestCopy 31 = .ok (.istore 4, 2) := by decide +kernel
theorem dX5_bestCopy_33 : decode cX5_bestCopy 33 = .ok (.iload 4, 2) := by decide +kernel
theorem dX5_bestCopy_35 : decode cX5_bestCopy 35 = .ok (.iconst (-1), 1) := by decide +kernel
theorem dX5_bestCopy_36 : decode cX5_bestCopy 36 = .ok (.if_icmp .eq 22, 3) := by decide +kernel
theorem dX5_bestCopy_39 : decode cX5_bestCopy 39 = .ok (.iload_n 2, 1) := by decide +kernel
theorem dX5_bestCopy_40 : decode cX5_bestCopy 40 = .ok (.iconst (-1), 1) := by decide +kernel
theorem dX5_bestCopy_41 : decode cX5_bestCopy 41 = .ok (.if_icmp .eq 13, 3) := by decide +kernel
theorem dX5_bestCopy_44 : decode cX5_bestCopy 44 = .ok (.iload 4, 2) := by decide +kernel
theorem dX5_bestCopy_46 : decode cX5_bestCopy 46 = .ok (.aload_n 0, 1) := by decide +kernel
theorem dX5_bestCopy_47 : decode cX5_bestCopy 47 = .ok (.iload_n 2, 1) := by decide +kernel
theorem dX5_bestCopy_48 : decode cX5_bestCopy 48 = .ok (.invokevirtual 143, 3) := by decide +kernel
theorem dX5_bestCopy_51 : decode cX5_bestCopy 51 = .ok (.if_icmp .ge 7, 3) := by decide +kernel
theorem dX5_bestCopy_54 : decode cX5_bestCopy 54 = .ok (.iload_n 3, 1) := by decide +kernel
theorem dX5_bestCopy_55 : decode cX5_bestCopy 55 = .ok (.goto 4, 3) := by decide +kernel
theorem dX5_bestCopy_58 : decode cX5_bestCopy 58 = .ok (.iload_n 2, 1) := by decide +kernel
theorem dX5_bestCopy_59 : decode cX5_bestCopy 59 = .ok (.istore_n 2, 1) := by decide +kernel
theorem dX5_bestCopy_60 : decode cX5_bestCopy 60 = .ok (.iinc 3 1, 3) := by decide +kernel
theorem dX5_bestCopy_63 : decode cX5_bestCopy 63 = .ok (.goto (-59), 3) := by decide +kernel
theorem dX5_bestCopy_66 : decode cX5_bestCopy 66 = .ok (.iload_n 2, 1) := by decide +kernel
theorem dX5_bestCopy_67 : decode cX5_bestCopy 67 = .ok (.ireturn, 1) := by decide +kernel
set_option maxRecDepth 20000 in
theorem ggX5_isOffered_X5_isIn : GoodIn wsX5_isOffered wsX5_isIn := goodIn_r _ [10] (by decide +kernel) (by decide +kernel)
set_option maxRecDepth 20000 in
theorem gX5_isOffered_X5_isIn : GoodIn wsX5_isOffered (va_wsS RX5 86 yX5_isIn wsX5_isIn) := goodIn_app (goodIn_of _ (by decide +kernel)) ggX5_isOffered_X5_isIn
set_option maxRecDepth 20000 in
theorem ggX5_isOffered_X5_leftOf : GoodIn wsX5_isOffered wsX5_leftOf := goodIn_r _ [14, 15, 16, 17, 38, 39, 40, 41, 42, 43, 44, 45, 46, 47, 48, 49, 50, 51, 52, 53, 54, 55, 56, 57, 58, 59, 60, 61, 62, 63, 64, 65, 66, 67, 68, 69, 70] (by decide +kernel) (by decide +kernel)
set_option maxRecDepth 20000 in
theorem gX5_isOffered_X5_leftOf : GoodIn wsX5_isOffered (wsV RX5 134 RX5 yX5_leftOf wsX5_leftOf) := goodIn_app (goodIn_of _ (by decide +kernel)) ggX5_isOffered_X5_leftOf
set_option maxRecDepth 20000 in
theorem ggX5_isOffered_X5_bestCopy : GoodIn wsX5_isOffered wsX5_bestCopy := goodIn_r _ [21, 22, 23, 24, 25, 26, 9, 27, 28, 29, 30, 31, 32, 33, 34, 35, 36, 37, 38, 39, 40, 41, 42, 43, 44, 45, 46, 47, 48, 49, 50, 51, 52, 53, 54, 55, 56, 57, 58, 59, 60, 61, 62, 63, 64, 65, 66, 67, 68, 69, 70] (by decide +kernel) (by decide +kernel)
set_option maxRecDepth 20000 in
theorem gX5_isOffered_X5_bestCopy : GoodIn wsX5_isOffered (wsV RX5 146 RX5 yX5_bestCopy wsX5_bestCopy) := goodIn_app (goodIn_of _ (by decide +kernel)) ggX5_isOffered_X5_bestCopy
theorem dX5_isOffered_0 : decode cX5_isOffered 0 = .ok (.aload_n 0, 1) := by decide +kernel
theorem dX5_isOffered_1 : decode cX5_isOffered 1 = .ok (.getfield 22, 3) := by decide +kernel
theorem dX5_isOffered_4 : decode cX5_isOffered 4 = .ok (.iload_n 1, 1) := by decide +kernel
theorem dX5_isOffered_5 : decode cX5_isOffered 5 = .ok (.iaload, 1) := by decide +kernel
theorem dX5_isOffered_6 : decode cX5_isOffered 6 = .ok (.iconst 1, 1) := by decide +kernel
theorem dX5_isOffered_7 : decode cX5_isOffered 7 = .ok (.if_icmp .ne 41, 3) := by decide +kernel
theorem dX5_isOffered_10 : decode cX5_isOffered 10 = .ok (.aload_n 0, 1) := by decide +kernel
theorem dX5_isOffered_11 : decode cX5_isOffered 11 = .ok (.getfield 28, 3) := by decide +kernel
theorem dX5_isOffered_14 : decode cX5_isOffered 14 = .ok (.iload_n 1, 1) := by decide +kernel
theorem dX5_isOffered_15 : decode cX5_isOffered 15 = .ok (.iaload, 1) := by decide +kernel
theorem dX5_isOffered_16 : decode cX5_isOffered 16 = .ok (.iconst (-1), 1) := by decide +kernel
theorem dX5_isOffered_17 : decode cX5_isOffered 17 = .ok (.if_icmp .ne 31, 3) := by decide +kernel
theorem dX5_isOffered_20 : decode cX5_isOffered 20 = .ok (.aload_n 0, 1) := by decide +kernel
theorem dX5_isOffered_21 : decode cX5_isOffered 21 = .ok (.getfield 16, 3) := by decide +kernel
theorem dX5_isOffered_24 : decode cX5_isOffered 24 = .ok (.iload_n 1, 1) := by decide +kernel
theorem dX5_isOffered_25 : decode cX5_isOffered 25 = .ok (.iaload, 1) := by decide +kernel
theorem dX5_isOffered_26 : decode cX5_isOffered 26 = .ok (.aload_n 0, 1) := by decide +kernel
theorem dX5_isOffered_27 : decode cX5_isOffered 27 = .ok (.getfield 31, 3) := by decide +kernel
theorem dX5_isOffered_30 : decode cX5_isOffered 30 = .ok (.iload_n 2, 1) := by decide +kernel
theorem dX5_isOffered_31 : decode cX5_isOffered 31 = .ok (.iaload, 1) := by decide +kernel
theorem dX5_isOffered_32 : decode cX5_isOffered 32 = .ok (.aload_n 0, 1) := by decide +kernel
theorem dX5_isOffered_33 : decode cX5_isOffered 33 = .ok (.getfield 34, 3) := by decide +kernel
theorem dX5_isOffered_36 : decode cX5_isOffered 36 = .ok (.iload_n 2, 1) := by decide +kernel
theorem dX5_isOffered_37 : decode cX5_isOffered 37 = .ok (.iaload, 1) := by decide +kernel
theorem dX5_isOffered_38 : decode cX5_isOffered 38 = .ok (.invokestatic 86, 3) := by decide +kernel
theorem dX5_isOffered_41 : decode cX5_isOffered 41 = .ok (.ifCond .eq 7, 3) := by decide +kernel
theorem dX5_isOffered_44 : decode cX5_isOffered 44 = .ok (.iconst 1, 1) := by decide +kernel
theorem dX5_isOffered_45 : decode cX5_isOffered 45 = .ok (.goto 4, 3) := by decide +kernel
theorem dX5_isOffered_48 : decode cX5_isOffered 48 = .ok (.iconst 0, 1) := by decide +kernel
theorem dX5_isOffered_49 : decode cX5_isOffered 49 = .ok (.istore_n 3, 1) := by decide +kernel
theorem dX5_isOffered_50 : decode cX5_isOffered 50 = .ok (.iload_n 3, 1) := by decide +kernel
theorem dX5_isOffered_51 : decode cX5_isOffered 51 = .ok (.ifCond .eq 30, 3) := by decide +kernel
theorem dX5_isOffered_54 : decode cX5_isOffered 54 = .ok (.aload_n 0, 1) := by decide +kernel
theorem dX5_isOffered_55 : decode cX5_isOffered 55 = .ok (.iload_n 1, 1) := by decide +kernel
theorem dX5_isOffered_56 : decode cX5_isOffered 56 = .ok (.invokevirtual 134, 3) := by decide +kernel
theorem dX5_isOffered_59 : decode cX5_isOffered 59 = .ok (.aload_n 0, 1) := by decide +kernel
theorem dX5_isOffered_60 : decode cX5_isOffered 60 = .ok (.getfield 37, 3) := by decide +kernel
theorem dX5_isOffered_63 : decode cX5_isOffered 63 = .ok (.iload_n 2, 1) := by decide +kernel
theorem dX5_isOffered_64 : decode cX5_isOffered 64 = .ok (.iaload, 1) := by decide +kernel
theorem dX5_isOffered_65 : decode cX5_isOffered 65 = .ok (.if_icmp .lt 16, 3) := by decide +kernel
theorem dX5_isOffered_68 : decode cX5_isOffered 68 = .ok (.aload_n 0, 1) := by decide +kernel
theorem dX5_isOffered_69 : decode cX5_isOffered 69 = .ok (.iload_n 2, 1) := by decide +kernel
theorem dX5_isOffered_70 : decode cX5_isOffered 70 = .ok (.invokevirtual 146, 3) := by decide +kernel
theorem dX5_isOffered_73 : decode cX5_isOffered 73 = .ok (.iconst (-1), 1) := by decide +kernel
theorem dX5_isOffered_74 : decode cX5_isOffered 74 = .ok (.if_icmp .eq 7, 3) := by decide +kernel
theorem dX5_isOffered_77 : decode cX5_isOffered 77 = .ok (.iconst 1, 1) := by decide +kernel
theorem dX5_isOffered_78 : decode cX5_isOffered 78 = .ok (.goto 4, 3) := by decide +kernel
theorem dX5_isOffered_81 : decode cX5_isOffered 81 = .ok (.iconst 0, 1) := by decide +kernel
theorem dX5_isOffered_82 : decode cX5_isOffered 82 = .ok (.ireturn, 1) := by decide +kernel
set_option maxRecDepth 20000 in
theorem ggX5_offersTo_X5_isOffered : GoodIn wsX5_offersTo wsX5_isOffered := goodIn_r _ [6, 7, 8, 9, 10, 11, 12, 13, 14, 5, 15, 16, 17, 18, 19, 20, 21, 22, 23, 24, 25, 26, 27, 28, 29, 30, 31, 32, 33, 34, 35, 36, 37, 38, 39, 40, 41, 42, 43, 44, 45, 46, 47, 48, 49, 50, 51, 52, 53, 54, 55, 56, 57, 58, 59, 60, 61, 62, 63, 64, 65, 66, 67, 68, 69, 70, 71, 72, 73, 74, 75] (by decide +kernel) (by decide +kernel)
set_option maxRecDepth 20000 in
theorem gX5_offersTo_X5_isOffered : GoodIn wsX5_offersTo (wsV RX5 149 RX5 yX5_isOffered wsX5_isOffered) := goodIn_app (goodIn_of _ (by decide +kernel)) ggX5_offersTo_X5_isOffered
theorem dX5_offersTo_0 : decode cX5_offersTo 0 = .ok (.iconst 0, 1) := by decide +kernel
theorem dX5_offersTo_1 : decode cX5_offersTo 1 = .ok (.istore_n 2, 1) := by decide +kernel
theorem dX5_offersTo_2 : decode cX5_offersTo 2 = .ok (.iconst 0, 1) := by decide +kernel
theorem dX5_offersTo_3 : decode cX5_offersTo 3 = .ok (.istore_n 3, 1) := by decide +kernel
theorem dX5_offersTo_4 : decode cX5_offersTo 4 = .ok (.iload_n 3, 1) := by decide +kernel
theorem dX5_offersTo_5 : decode cX5_offersTo 5 = .ok (.aload_n 0, 1) := by decide +kernel
theorem dX5_offersTo_6 : decode cX5_offersTo 6 = .ok (.getfield 83, 3) := by decide +kernel
theorem dX5_offersTo_9 : decode cX5_offersTo 9 = .ok (.if_icmp .ge 26, 3) := by decide +kernel
theorem dX5_offersTo_12 : decode cX5_offersTo 12 = .ok (.iload_n 2, 1) := by decide +kernel
theorem dX5_offersTo_13 : decode cX5_offersTo 13 = .ok (.aload_n 0, 1) := by decide +kernel
theorem dX5_offersTo_14 : decode cX5_offersTo 14 = .ok (.iload_n 1, 1) := by decide +kernel
theorem dX5_offersTo_15 : decode cX5_offersTo 15 = .ok (.iload_n 3, 1) := by decide +kernel
theorem dX5_offersTo_16 : decode cX5_offersTo 16 = .ok (.invokevirtual 149, 3) := by decide +kernel
theorem dX5_offersTo_19 : decode cX5_offersTo 19 = .ok (.ifCond .eq 7, 3) := by decide +kernel
theorem dX5_offersTo_22 : decode cX5_offersTo 22 = .ok (.iconst 1, 1) := by decide +kernel
theorem dX5_offersTo_23 : decode cX5_offersTo 23 = .ok (.goto 4, 3) := by decide +kernel
theorem dX5_offersTo_26 : decode cX5_offersTo 26 = .ok (.iconst 0, 1) := by decide +kernel
theorem dX5_offersTo_27 : decode cX5_offersTo 27 = .ok (.iadd, 1) := by decide +kernel
theorem dX5_offersTo_28 : decode cX5_offersTo 28 = .ok (.istore_n 2, 1) := by decide +kernel
theorem dX5_offersTo_29 : decode cX5_offersTo 29 = .ok (.iinc 3 1, 3) := by decide +kernel
theorem dX5_offersTo_32 : decode cX5_offersTo 32 = .ok (.goto (-28), 3) := by decide +kernel
theorem dX5_offersTo_35 : decode cX5_offersTo 35 = .ok (.iload_n 2, 1) := by decide +kernel
theorem dX5_offersTo_36 : decode cX5_offersTo 36 = .ok (.ireturn, 1) := by decide +kernel
set_option maxRecDepth 20000 in
theorem ggX5_offers_X5_isGroup : GoodIn wsX5_offers wsX5_isGroup := goodIn_r _ [5, 6, 7, 8, 4, 9, 57, 58, 59, 60, 61, 62, 63, 64, 65, 66, 67, 68, 69, 70, 71, 72, 73, 74, 75, 76, 77, 78, 79, 80, 81, 82, 83, 84, 85, 86, 87, 88, 89] (by decide +kernel) (by decide +kernel)
set_option maxRecDepth 20000 in
theorem gX5_offers_X5_isGroup : GoodIn wsX5_offers (wsV RX5 127 RX5 yX5_isGroup wsX5_isGroup) := goodIn_app (goodIn_of _ (by decide +kernel)) ggX5_offers_X5_isGroup
set_option maxRecDepth 20000 in
theorem ggX5_offers_X5_isFine : GoodIn wsX5_offers wsX5_isFine := goodIn_r _ [13, 14, 57, 58, 59, 60, 61, 62, 63, 64, 65, 66, 67, 68, 69, 70, 71, 72, 73, 74, 75, 76, 77, 78, 79, 80, 81, 82, 83, 84, 85, 86, 87, 88, 89] (by decide +kernel) (by decide +kernel)
set_option maxRecDepth 20000 in
theorem gX5_offers_X5_isFine : GoodIn wsX5_offers (wsV RX5 99 RX5 yX5_isFine wsX5_isFine) := goodIn_app (goodIn_of _ (by decide +kernel)) ggX5_offers_X5_isFine
set_option maxRecDepth 20000 in
theorem ggX5_offers_X5_offersTo : GoodIn wsX5_offers wsX5_offersTo := goodIn_r _ [18, 19, 20, 21, 22, 4, 23, 24, 25, 26, 27, 28, 29, 7, 8, 9, 30, 31, 32, 33, 34, 35, 36, 37, 38, 39, 40, 41, 42, 43, 44, 45, 46, 47, 48, 49, 50, 51, 52, 53, 54, 55, 56, 57, 58, 59, 60, 61, 62, 63, 64, 65, 66, 67, 68, 69, 70, 71, 72, 73, 74, 75, 76, 77, 78, 79, 80, 81, 82, 83, 84, 85, 86, 87, 88, 89] (by decide +kernel) (by decide +kernel)
set_option maxRecDepth 20000 in
theorem gX5_offers_X5_offersTo : GoodIn wsX5_offers (wsV RX5 153 RX5 yX5_offersTo wsX5_offersTo) := goodIn_app (goodIn_of _ (by decide +kernel)) ggX5_offers_X5_offersTo
theorem dX5_offers_0 : decode cX5_offers 0 = .ok (.aload_n 0, 1) := by decide +kernel
theorem dX5_offers_1 : decode cX5_offers 1 = .ok (.aload_n 0, 1) := by decide +kernel
theorem dX5_offers_2 : decode cX5_offers 2 = .ok (.iload_n 1, 1) := by decide +kernel
theorem dX5_offers_3 : decode cX5_offers 3 = .ok (.invokevirtual 127, 3) := by decide +kernel
theorem dX5_offers_6 : decode cX5_offers 6 = .ok (.ifCond .eq 7, 3) := by decide +kernel
theorem dX5_offers_9 : decode cX5_offers 9 = .ok (.iconst 0, 1) := by decide +kernel
theorem dX5_offers_10 : decode cX5_offers 10 = .ok (.goto 4, 3) := by decide +kernel
theorem dX5_offers_13 : decode cX5_offers 13 = .ok (.iconst 1, 1) := by decide +kernel
theorem dX5_offers_14 : decode cX5_offers 14 = .ok (.invokevirtual 99, 3) := by decide +kernel
theorem dX5_offers_17 : decode cX5_offers 17 = .ok (.ifCond .eq 11, 3) := by decide +kernel
theorem dX5_offers_20 : decode cX5_offers 20 = .ok (.aload_n 0, 1) := by decide +kernel
theorem dX5_offers_21 : decode cX5_offers 21 = .ok (.iload_n 1, 1) := by decide +kernel
theorem dX5_offers_22 : decode cX5_offers 22 = .ok (.invokevirtual 153, 3) := by decide +kernel
theorem dX5_offers_25 : decode cX5_offers 25 = .ok (.goto 4, 3) := by decide +kernel
theorem dX5_offers_28 : decode cX5_offers 28 = .ok (.iconst 0, 1) := by decide +kernel
theorem dX5_offers_29 : decode cX5_offers 29 = .ok (.ireturn, 1) := by decide +kernel
set_option maxRecDepth 20000 in
theorem ggX5_ahead_X5_isOffered : GoodIn wsX5_ahead wsX5_isOffered := goodIn_r _ [7, 8, 9, 10, 11, 12, 2, 13, 14, 6, 15, 16, 17, 18, 19, 20, 21, 22, 23, 24, 25, 26, 27, 28, 29, 30, 31, 32, 33, 34, 35, 36, 37, 38, 39, 40, 41, 42, 43, 44, 45, 46, 47, 48, 49, 50, 51, 52, 53, 54, 55, 56, 57, 58, 59, 60, 61, 62, 63, 64, 65, 66, 67, 68, 69, 70, 71, 72, 73, 74, 75] (by decide +kernel) (by decide +kernel)
set_option maxRecDepth 20000 in
theorem gX5_ahead_X5_isOffered : GoodIn wsX5_ahead (wsV RX5 149 RX5 yX5_isOffered wsX5_isOffered) := goodIn_app (goodIn_of _ (by decide +kernel)) ggX5_ahead_X5_isOffered
theorem dX5_ahead_0 : decode cX5_ahead 0 = .ok (.iconst 0, 1) := by decide +kernel
theorem dX5_ahead_1 : decode cX5_ahead 1 = .ok (.istore_n 3, 1) := by decide +kernel
theorem dX5_ahead_2 : decode cX5_ahead 2 = .ok (.iconst 0, 1) := by decide +kernel
theorem dX5_ahead_3 : decode cX5_ahead 3 = .ok (.istore 4, 2) := by decide +kernel
theorem dX5_ahead_5 : decode cX5_ahead 5 = .ok (.iload 4, 2) := by decide +kernel
theorem dX5_ahead_7 : decode cX5_ahead 7 = .ok (.aload_n 0, 1) := by decide +kernel
theorem dX5_ahead_8 : decode cX5_ahead 8 = .ok (.getfield 83, 3) := by decide +kernel
theorem dX5_ahead_11 : decode cX5_ahead 11 = .ok (.if_icmp .ge 77, 3) := by decide +kernel
theorem dX5_ahead_14 : decode cX5_ahead 14 = .ok (.aload_n 0, 1) := by decide +kernel
theorem dX5_ahead_15 : decode cX5_ahead 15 = .ok (.getfield 37, 3) := by decide +kernel
theorem dX5_ahead_18 : decode cX5_ahead 18 = .ok (.iload 4, 2) := by decide +kernel
theorem dX5_ahead_20 : decode cX5_ahead 20 = .ok (.iaload, 1) := by decide +kernel
theorem dX5_ahead_21 : decode cX5_ahead 21 = .ok (.aload_n 0, 1) := by decide +kernel
theorem dX5_ahead_22 : decode cX5_ahead 22 = .ok (.getfield 37, 3) := by decide +kernel
theorem dX5_ahead_25 : decode cX5_ahead 25 = .ok (.iload_n 2, 1) := by decide +kernel
theorem dX5_ahead_26 : decode cX5_ahead 26 = .ok (.iaload, 1) := by decide +kernel
theorem dX5_ahead_27 : decode cX5_ahead 27 = .ok (.if_icmp .gt 25, 3) := by decide +kernel
theorem dX5_ahead_30 : decode cX5_ahead 30 = .ok (.aload_n 0, 1) := by decide +kernel
theorem dX5_ahead_31 : decode cX5_ahead 31 = .ok (.getfield 37, 3) := by decide +kernel
theorem dX5_ahead_34 : decode cX5_ahead 34 = .ok (.iload 4, 2) := by decide +kernel
theorem dX5_ahead_36 : decode cX5_ahead 36 = .ok (.iaload, 1) := by decide +kernel
theorem dX5_ahead_37 : decode cX5_ahead 37 = .ok (.aload_n 0, 1) := by decide +kernel
theorem dX5_ahead_38 : decode cX5_ahead 38 = .ok (.getfield 37, 3) := by decide +kernel
theorem dX5_ahead_41 : decode cX5_ahead 41 = .ok (.iload_n 2, 1) := by decide +kernel
theorem dX5_ahead_42 : decode cX5_ahead 42 = .ok (.iaload, 1) := by decide +kernel
theorem dX5_ahead_43 : decode cX5_ahead 43 = .ok (.if_icmp .ne 13, 3) := by decide +kernel
theorem dX5_ahead_46 : decode cX5_ahead 46 = .ok (.iload 4, 2) := by decide +kernel
theorem dX5_ahead_48 : decode cX5_ahead 48 = .ok (.iload_n 2, 1) := by decide +kernel
theorem dX5_ahead_49 : decode cX5_ahead 49 = .ok (.if_icmp .ge 7, 3) := by decide +kernel
theorem dX5_ahead_52 : decode cX5_ahead 52 = .ok (.iconst 1, 1) := by decide +kernel
theorem dX5_ahead_53 : decode cX5_ahead 53 = .ok (.goto 4, 3) := by decide +kernel
theorem dX5_ahead_56 : decode cX5_ahead 56 = .ok (.iconst 0, 1) := by decide +kernel
theorem dX5_ahead_57 : decode cX5_ahead 57 = .ok (.istore 5, 2) := by decide +kernel
theorem dX5_ahead_59 : decode cX5_ahead 59 = .ok (.iload_n 3, 1) := by decide +kernel
theorem dX5_ahead_60 : decode cX5_ahead 60 = .ok (.iload 5, 2) := by decide +kernel
theorem dX5_ahead_62 : decode cX5_ahead 62 = .ok (.ifCond .eq 17, 3) := by decide +kernel
theorem dX5_ahead_65 : decode cX5_ahead 65 = .ok (.aload_n 0, 1) := by decide +kernel
theorem dX5_ahead_66 : decode cX5_ahead 66 = .ok (.iload_n 1, 1) := by decide +kernel
theorem dX5_ahead_67 : decode cX5_ahead 67 = .ok (.iload 4, 2) := by decide +kernel
theorem dX5_ahead_69 : decode cX5_ahead 69 = .ok (.invokevirtual 149, 3) := by decide +kernel
theorem dX5_ahead_72 : decode cX5_ahead 72 = .ok (.ifCond .eq 7, 3) := by decide +kernel
theorem dX5_ahead_75 : decode cX5_ahead 75 = .ok (.iconst 1, 1) := by decide +kernel
theorem dX5_ahead_76 : decode cX5_ahead 76 = .ok (.goto 4, 3) := by decide +kernel
theorem dX5_ahead_79 : decode cX5_ahead 79 = .ok (.iconst 0, 1) := by decide +kernel
theorem dX5_ahead_80 : decode cX5_ahead 80 = .ok (.iadd, 1) := by decide +kernel
theorem dX5_ahead_81 : decode cX5_ahead 81 = .ok (.istore_n 3, 1) := by decide +kernel
theorem dX5_ahead_82 : decode cX5_ahead 82 = .ok (.iinc 4 1, 3) := by decide +kernel
theorem dX5_ahead_85 : decode cX5_ahead 85 = .ok (.goto (-80), 3) := by decide +kernel
theorem dX5_ahead_88 : decode cX5_ahead 88 = .ok (.iload_n 3, 1) := by decide +kernel
theorem dX5_ahead_89 : decode cX5_ahead 89 = .ok (.ireturn, 1) := by decide +kernel
set_option maxRecDepth 20000 in
theorem ggX5_offerAt_X5_isGroup : GoodIn wsX5_offerAt wsX5_isGroup := goodIn_r _ [6, 7, 8, 9, 5, 10, 61, 62, 63, 64, 65, 66, 67, 68, 69, 70, 71, 72, 73, 74, 75, 76, 77, 78, 79, 80, 81, 82, 83, 84, 85, 86, 87, 88, 89, 90, 91, 92, 93] (by decide +kernel) (by decide +kernel)
set_option maxRecDepth 20000 in
theorem gX5_offerAt_X5_isGroup : GoodIn wsX5_offerAt (wsV RX5 127 RX5 yX5_isGroup wsX5_isGroup) := goodIn_app (goodIn_of _ (by decide +kernel)) ggX5_offerAt_X5_isGroup
set_option maxRecDepth 20000 in
theorem ggX5_offerAt_X5_offersTo : GoodIn wsX5_offerAt wsX5_offersTo := goodIn_r _ [14, 1, 15, 16, 17, 5, 18, 19, 20, 21, 22, 23, 24, 8, 9, 10, 25, 26, 27, 28, 29, 30, 31, 32, 33, 34, 35, 36, 37, 38, 39, 40, 41, 42, 43, 44, 45, 46, 47, 48, 49, 50, 51, 61, 62, 63, 64, 65, 66, 67, 68, 69, 70, 71, 72, 73, 74, 75, 76, 77, 78, 79, 80, 81, 82, 83, 84, 85, 86, 87, 88, 89, 90, 91, 92, 93] (by decide +kernel) (by decide +kernel)
set_option maxRecDepth 20000 in
theorem gX5_offerAt_X5_offersTo : GoodIn wsX5_offerAt (wsV RX5 153 RX5 yX5_offersTo wsX5_offersTo) := goodIn_app (goodIn_of _ (by decide +kernel)) ggX5_offerAt_X5_offersTo
set_option maxRecDepth 20000 in
theorem ggX5_offerAt_X5_isIn : GoodIn wsX5_offerAt wsX5_isIn := goodIn_r _ [10] (by decide +kernel) (by decide +kernel)
set_option maxRecDepth 20000 in
theorem gX5_offerAt_X5_isIn : GoodIn wsX5_offerAt (va_wsS RX5 86 yX5_isIn wsX5_isIn) := goodIn_app (goodIn_of _ (by decide +kernel)) ggX5_offerAt_X5_isIn
set_option maxRecDepth 20000 in
theorem ggX5_offerAt_X5_isFine : GoodIn wsX5_offerAt wsX5_isFine := goodIn_r _ [55, 56, 61, 62, 63, 64, 65, 66, 67, 68, 69, 70, 71, 72, 73, 74, 75, 76, 77, 78, 79, 80, 81, 82, 83, 84, 85, 86, 87, 88, 89, 90, 91, 92, 93] (by decide +kernel) (by decide +kernel)
set_option maxRecDepth 20000 in
theorem gX5_offerAt_X5_isFine : GoodIn wsX5_offerAt (wsV RX5 99 RX5 yX5_isFine wsX5_isFine) := goodIn_app (goodIn_of _ (by decide +kernel)) ggX5_offerAt_X5_isFine
set_option maxRecDepth 20000 in
theorem ggX5_offerAt_X5_isOffered : GoodIn wsX5_offerAt wsX5_isOffered := goodIn_r _ [18, 19, 20, 21, 22, 23, 24, 8, 9, 5, 10, 25, 26, 27, 28, 29, 30, 31, 32, 33, 34, 35, 36, 37, 38, 39, 40, 41, 42, 43, 44, 45, 46, 47, 48, 49, 50, 51, 61, 62, 63, 64, 65, 66, 67, 68, 69, 70, 71, 72, 73, 74, 75, 76, 77, 78, 79, 80, 81, 82, 83, 84, 85, 86, 87, 88, 89, 90, 91, 92, 93] (by decide +kernel) (by decide +kernel)
set_option maxRecDepth 20000 in
theorem gX5_offerAt_X5_isOffered : GoodIn wsX5_offerAt (wsV RX5 149 RX5 yX5_isOffered wsX5_isOffered) := goodIn_app (goodIn_of _ (by decide +kernel)) ggX5_offerAt_X5_isOffered
set_option maxRecDepth 20000 in
theorem ggX5_offerAt_X5_ahead : GoodIn wsX5_offerAt wsX5_ahead := goodIn_r _ [60, 1, 24, 15, 16, 17, 5, 18, 19, 20, 21, 22, 23, 8, 9, 10, 25, 26, 27, 28, 29, 30, 31, 32, 33, 34, 35, 36, 37, 38, 39, 40, 41, 42, 43, 44, 45, 46, 47, 48, 49, 50, 51, 61, 62, 63, 64, 65, 66, 67, 68, 69, 70, 71, 72, 73, 74, 75, 76, 77, 78, 79, 80, 81, 82, 83, 84, 85, 86, 87, 88, 89, 90, 91, 92, 93] (by decide +kernel) (by decide +kernel)
set_option maxRecDepth 20000 in
theorem gX5_offerAt_X5_ahead : GoodIn wsX5_offerAt (wsV RX5 156 RX5 yX5_ahead wsX5_ahead) := goodIn_app (goodIn_of _ (by decide +kernel)) ggX5_offerAt_X5_ahead
theorem dX5_offerAt_0 : decode cX5_offerAt 0 = .ok (.aload_n 0, 1) := by decide +kernel
theorem dX5_offerAt_1 : decode cX5_offerAt 1 = .ok (.iload_n 1, 1) := by decide +kernel
theorem dX5_offerAt_2 : decode cX5_offerAt 2 = .ok (.invokevirtual 127, 3) := by decide +kernel
theorem dX5_offerAt_5 : decode cX5_offerAt 5 = .ok (.istore_n 3, 1) := by decide +kernel
theorem dX5_offerAt_6 : decode cX5_offerAt 6 = .ok (.aload_n 0, 1) := by decide +kernel
theorem dX5_offerAt_7 : decode cX5_offerAt 7 = .ok (.iload_n 3, 1) := by decide +kernel
theorem dX5_offerAt_8 : decode cX5_offerAt 8 = .ok (.ifCond .eq 22, 3) := by decide +kernel
theorem dX5_offerAt_11 : decode cX5_offerAt 11 = .ok (.iload_n 2, 1) := by decide +kernel
theorem dX5_offerAt_12 : decode cX5_offerAt 12 = .ok (.iconst 0, 1) := by decide +kernel
theorem dX5_offerAt_13 : decode cX5_offerAt 13 = .ok (.aload_n 0, 1) := by decide +kernel
theorem dX5_offerAt_14 : decode cX5_offerAt 14 = .ok (.iload_n 1, 1) := by decide +kernel
theorem dX5_offerAt_15 : decode cX5_offerAt 15 = .ok (.invokevirtual 153, 3) := by decide +kernel
theorem dX5_offerAt_18 : decode cX5_offerAt 18 = .ok (.iconst 1, 1) := by decide +kernel
theorem dX5_offerAt_19 : decode cX5_offerAt 19 = .ok (.isub, 1) := by decide +kernel
theorem dX5_offerAt_20 : decode cX5_offerAt 20 = .ok (.invokestatic 86, 3) := by decide +kernel
theorem dX5_offerAt_23 : decode cX5_offerAt 23 = .ok (.ifCond .eq 7, 3) := by decide +kernel
theorem dX5_offerAt_26 : decode cX5_offerAt 26 = .ok (.iconst 0, 1) := by decide +kernel
theorem dX5_offerAt_27 : decode cX5_offerAt 27 = .ok (.goto 4, 3) := by decide +kernel
theorem dX5_offerAt_30 : decode cX5_offerAt 30 = .ok (.iconst 1, 1) := by decide +kernel
theorem dX5_offerAt_31 : decode cX5_offerAt 31 = .ok (.invokevirtual 99, 3) := by decide +kernel
theorem dX5_offerAt_34 : decode cX5_offerAt 34 = .ok (.ifCond .ne 5, 3) := by decide +kernel
theorem dX5_offerAt_37 : decode cX5_offerAt 37 = .ok (.iconst 0, 1) := by decide +kernel
theorem dX5_offerAt_38 : decode cX5_offerAt 38 = .ok (.ireturn, 1) := by decide +kernel
theorem dX5_offerAt_39 : decode cX5_offerAt 39 = .ok (.iconst (-1), 1) := by decide +kernel
theorem dX5_offerAt_40 : decode cX5_offerAt 40 = .ok (.istore 4, 2) := by decide +kernel
theorem dX5_offerAt_42 : decode cX5_offerAt 42 = .ok (.iconst 0, 1) := by decide +kernel
theorem dX5_offerAt_43 : decode cX5_offerAt 43 = .ok (.istore 5, 2) := by decide +kernel
theorem dX5_offerAt_45 : decode cX5_offerAt 45 = .ok (.iload 5, 2) := by decide +kernel
theorem dX5_offerAt_47 : decode cX5_offerAt 47 = .ok (.aload_n 0, 1) := by decide +kernel
theorem dX5_offerAt_48 : decode cX5_offerAt 48 = .ok (.getfield 83, 3) := by decide +kernel
theorem dX5_offerAt_51 : decode cX5_offerAt 51 = .ok (.if_icmp .ge 39, 3) := by decide +kernel
theorem dX5_offerAt_54 : decode cX5_offerAt 54 = .ok (.aload_n 0, 1) := by decide +kernel
theorem dX5_offerAt_55 : decode cX5_offerAt 55 = .ok (.iload_n 1, 1) := by decide +kernel
theorem dX5_offerAt_56 : decode cX5_offerAt 56 = .ok (.iload 5, 2) := by decide +kernel
theorem dX5_offerAt_58 : decode cX5_offerAt 58 = .ok (.invokevirtual 149, 3) := by decide +kernel
theorem dX5_offerAt_61 : decode cX5_offerAt 61 = .ok (.ifCond .eq 19, 3) := by decide +kernel
theorem dX5_offerAt_64 : decode cX5_offerAt 64 = .ok (.aload_n 0, 1) := by decide +kernel
theorem dX5_offerAt_65 : decode cX5_offerAt 65 = .ok (.iload_n 1, 1) := by decide +kernel
theorem dX5_offerAt_66 : decode cX5_offerAt 66 = .ok (.iload 5, 2) := by decide +kernel
theorem dX5_offerAt_68 : decode cX5_offerAt 68 = .ok (.invokevirtual 156, 3) := by decide +kernel
theorem dX5_offerAt_71 : decode cX5_offerAt 71 = .ok (.iload_n 2, 1) := by decide +kernel
theorem dX5_offerAt_72 : decode cX5_offerAt 72 = .ok (.if_icmp .ne 8, 3) := by decide +kernel
theorem dX5_offerAt_75 : decode cX5_offerAt 75 = .ok (.iload 5, 2) := by decide +kernel
theorem dX5_offerAt_77 : decode cX5_offerAt 77 = .ok (.goto 5, 3) := by decide +kernel
theorem dX5_offerAt_80 : decode cX5_offerAt 80 = .ok (.iload 4, 2) := by decide +kernel
theorem dX5_offerAt_82 : decode cX5_offerAt 82 = .ok (.istore 4, 2) := by decide +kernel
theorem dX5_offerAt_84 : decode cX5_offerAt 84 = .ok (.iinc 5 1, 3) := by decide +kernel
theorem dX5_offerAt_87 : decode cX5_offerAt 87 = .ok (.goto (-42), 3) := by decide +kernel
theorem dX5_offerAt_90 : decode cX5_offerAt 90 = .ok (.iload 4, 2) := by decide +kernel
theorem dX5_offerAt_92 : decode cX5_offerAt 92 = .ok (.ireturn, 1) := by decide +kernel
set_option maxRecDepth 20000 in
theorem ggX5_lends_X5_lendsTo : GoodIn wsX5_lends wsX5_lendsTo := goodIn_r _ [15, 7, 9, 6, 16, 17, 18, 19, 20, 21, 22, 23, 24, 25, 26, 27, 28, 29, 30, 31, 32, 33, 34, 35, 36, 37, 38, 39, 40, 41, 42, 43, 44, 45, 46, 47, 48] (by decide +kernel) (by decide +kernel)
set_option maxRecDepth 20000 in
theorem gX5_lends_X5_lendsTo : GoodIn wsX5_lends (wsV RX5 160 RX5 yX5_lendsTo wsX5_lendsTo) := goodIn_app (goodIn_of _ (by decide +kernel)) ggX5_lends_X5_lendsTo
theorem dX5_lends_0 : decode cX5_lends 0 = .ok (.iconst 0, 1) := by decide +kernel
theorem dX5_lends_1 : decode cX5_lends 1 = .ok (.istore_n 2, 1) := by decide +kernel
theorem dX5_lends_2 : decode cX5_lends 2 = .ok (.iload_n 2, 1) := by decide +kernel
theorem dX5_lends_3 : decode cX5_lends 3 = .ok (.iconst 4, 1) := by decide +kernel
theorem dX5_lends_4 : decode cX5_lends 4 = .ok (.if_icmp .ge 248, 3) := by decide +kernel
theorem dX5_lends_7 : decode cX5_lends 7 = .ok (.aload_n 0, 1) := by decide +kernel
theorem dX5_lends_8 : decode cX5_lends 8 = .ok (.getfield 40, 3) := by decide +kernel
theorem dX5_lends_11 : decode cX5_lends 11 = .ok (.iconst 4, 1) := by decide +kernel
theorem dX5_lends_12 : decode cX5_lends 12 = .ok (.aload_n 0, 1) := by decide +kernel
theorem dX5_lends_13 : decode cX5_lends 13 = .ok (.getfield 43, 3) := by decide +kernel
theorem dX5_lends_16 : decode cX5_lends 16 = .ok (.iload_n 1, 1) := by decide +kernel
theorem dX5_lends_17 : decode cX5_lends 17 = .ok (.iaload, 1) := by decide +kernel
theorem dX5_lends_18 : decode cX5_lends 18 = .ok (.imul, 1) := by decide +kernel
theorem dX5_lends_19 : decode cX5_lends 19 = .ok (.iload_n 2, 1) := by decide +kernel
theorem dX5_lends_20 : decode cX5_lends 20 = .ok (.iadd, 1) := by decide +kernel
theorem dX5_lends_21 : decode cX5_lends 21 = .ok (.iaload, 1) := by decide +kernel
theorem dX5_lends_22 : decode cX5_lends 22 = .ok (.aload_n 0, 1) := by decide +kernel
theorem dX5_lends_23 : decode cX5_lends 23 = .ok (.getfield 49, 3) := by decide +kernel
theorem dX5_lends_26 : decode cX5_lends 26 = .ok (.iconst 4, 1) := by decide +kernel
theorem dX5_lends_27 : decode cX5_lends 27 = .ok (.iload_n 1, 1) := by decide +kernel
theorem dX5_lends_28 : decode cX5_lends 28 = .ok (.imul, 1) := by decide +kernel
theorem dX5_lends_29 : decode cX5_lends 29 = .ok (.iload_n 2, 1) := by decide +kernel
theorem dX5_lends_30 : decode cX5_lends 30 = .ok (.iadd, 1) := by decide +kernel
theorem dX5_lends_31 : decode cX5_lends 31 = .ok (.iaload, 1) := by decide +kernel
theorem dX5_lends_32 : decode cX5_lends 32 = .ok (.isub, 1) := by decide +kernel
theorem dX5_lends_33 : decode cX5_lends 33 = .ok (.istore_n 3, 1) := by decide +kernel
theorem dX5_lends_34 : decode cX5_lends 34 = .ok (.iconst 0, 1) := by decide +kernel
theorem dX5_lends_35 : decode cX5_lends 35 = .ok (.istore 4, 2) := by decide +kernel
theorem dX5_lends_37 : decode cX5_lends 37 = .ok (.iload 4, 2) := by decide +kernel
theorem dX5_lends_39 : decode cX5_lends 39 = .ok (.aload_n 0, 1) := by decide +kernel
theorem dX5_lends_40 : decode cX5_lends 40 = .ok (.getfield 90, 3) := by decide +kernel
theorem dX5_lends_43 : decode cX5_lends 43 = .ok (.if_icmp .ge 203, 3) := by decide +kernel
theorem dX5_lends_46 : decode cX5_lends 46 = .ok (.iload_n 3, 1) := by decide +kernel
theorem dX5_lends_47 : decode cX5_lends 47 = .ok (.ifCond .le 199, 3) := by decide +kernel
theorem dX5_lends_50 : decode cX5_lends 50 = .ok (.iload 4, 2) := by decide +kernel
theorem dX5_lends_52 : decode cX5_lends 52 = .ok (.iload_n 1, 1) := by decide +kernel
theorem dX5_lends_53 : decode cX5_lends 53 = .ok (.if_icmp .eq 44, 3) := by decide +kernel
theorem dX5_lends_56 : decode cX5_lends 56 = .ok (.aload_n 0, 1) := by decide +kernel
theorem dX5_lends_57 : decode cX5_lends 57 = .ok (.getfield 43, 3) := by decide +kernel
theorem dX5_lends_60 : decode cX5_lends 60 = .ok (.iload 4, 2) := by decide +kernel
theorem dX5_lends_62 : decode cX5_lends 62 = .ok (.iaload, 1) := by decide +kernel
theorem dX5_lends_63 : decode cX5_lends 63 = .ok (.aload_n 0, 1) := by decide +kernel
theorem dX5_lends_64 : decode cX5_lends 64 = .ok (.getfield 43, 3) := by decide +kernel
theorem dX5_lends_67 : decode cX5_lends 67 = .ok (.iload_n 1, 1) := by decide +kernel
theorem dX5_lends_68 : decode cX5_lends 68 = .ok (.iaload, 1) := by decide +kernel
theorem dX5_lends_69 : decode cX5_lends 69 = .ok (.if_icmp .ne 28, 3) := by decide +kernel
theorem dX5_lends_72 : decode cX5_lends 72 = .ok (.aload_n 0, 1) := by decide +kernel
theorem dX5_lends_73 : decode cX5_lends 73 = .ok (.getfield 46, 3) := by decide +kernel
theorem dX5_lends_76 : decode cX5_lends 76 = .ok (.iload 4, 2) := by decide +kernel
theorem dX5_lends_78 : decode cX5_lends 78 = .ok (.iaload, 1) := by decide +kernel
theorem dX5_lends_79 : decode cX5_lends 79 = .ok (.iconst 1, 1) := by decide +kernel
theorem dX5_lends_80 : decode cX5_lends 80 = .ok (.if_icmp .eq 17, 3) := by decide +kernel
theorem dX5_lends_83 : decode cX5_lends 83 = .ok (.aload_n 0, 1) := by decide +kernel
theorem dX5_lends_84 : decode cX5_lends 84 = .ok (.getfield 49, 3) := by decide +kernel
theorem dX5_lends_87 : decode cX5_lends 87 = .ok (.iconst 4, 1) := by decide +kernel
theorem dX5_lends_88 : decode cX5_lends 88 = .ok (.iload 4, 2) := by decide +kernel
theorem dX5_lends_90 : decode cX5_lends 90 = .ok (.imul, 1) := by decide +kernel
theorem dX5_lends_91 : decode cX5_lends 91 = .ok (.iload_n 2, 1) := by decide +kernel
theorem dX5_lends_92 : decode cX5_lends 92 = .ok (.iadd, 1) := by decide +kernel
theorem dX5_lends_93 : decode cX5_lends 93 = .ok (.iaload, 1) := by decide +kernel
theorem dX5_lends_94 : decode cX5_lends 94 = .ok (.goto 4, 3) := by decide +kernel
theorem dX5_lends_97 : decode cX5_lends 97 = .ok (.iconst 0, 1) := by decide +kernel
theorem dX5_lends_98 : decode cX5_lends 98 = .ok (.istore 5, 2) := by decide +kernel
theorem dX5_lends_100 : decode cX5_lends 100 = .ok (.aload_n 0, 1) := by decide +kernel
theorem dX5_lends_101 : decode cX5_lends 101 = .ok (.getfield 46, 3) := by decide +kernel
theorem dX5_lends_104 : decode cX5_lends 104 = .ok (.iload 4, 2) := by decide +kernel
theorem dX5_lends_106 : decode cX5_lends 106 = .ok (.iaload, 1) := by decide +kernel
theorem dX5_lends_107 : decode cX5_lends 107 = .ok (.iconst 2, 1) := by decide +kernel
theorem dX5_lends_108 : decode cX5_lends 108 = .ok (.if_icmp .ne 17, 3) := by decide +kernel
theorem dX5_lends_111 : decode cX5_lends 111 = .ok (.aload_n 0, 1) := by decide +kernel
theorem dX5_lends_112 : decode cX5_lends 112 = .ok (.iload 4, 2) := by decide +kernel
theorem dX5_lends_114 : decode cX5_lends 114 = .ok (.iload_n 1, 1) := by decide +kernel
theorem dX5_lends_115 : decode cX5_lends 115 = .ok (.invokevirtual 160, 3) := by decide +kernel
theorem dX5_lends_118 : decode cX5_lends 118 = .ok (.ifCond .ne 7, 3) := by decide +kernel
theorem dX5_lends_121 : decode cX5_lends 121 = .ok (.iconst 0, 1) := by decide +kernel
theorem dX5_lends_122 : decode cX5_lends 122 = .ok (.goto 15, 3) := by decide +kernel
theorem dX5_lends_125 : decode cX5_lends 125 = .ok (.iload 5, 2) := by decide +kernel
theorem dX5_lends_127 : decode cX5_lends 127 = .ok (.iload_n 3, 1) := by decide +kernel
theorem dX5_lends_128 : decode cX5_lends 128 = .ok (.if_icmp .le 7, 3) := by decide +kernel
theorem dX5_lends_131 : decode cX5_lends 131 = .ok (.iload_n 3, 1) := by decide +kernel
theorem dX5_lends_132 : decode cX5_lends 132 = .ok (.goto 5, 3) := by decide +kernel
theorem dX5_lends_135 : decode cX5_lends 135 = .ok (.iload 5, 2) := by decide +kernel
theorem dX5_lends_137 : decode cX5_lends 137 = .ok (.istore 5, 2) := by decide +kernel
theorem dX5_lends_139 : decode cX5_lends 139 = .ok (.iload 5, 2) := by decide +kernel
theorem dX5_lends_141 : decode cX5_lends 141 = .ok (.ifCond .le 99, 3) := by decide +kernel
theorem dX5_lends_144 : decode cX5_lends 144 = .ok (.aload_n 0, 1) := by decide +kernel
theorem dX5_lends_145 : decode cX5_lends 145 = .ok (.getfield 52, 3) := by decide +kernel
theorem dX5_lends_148 : decode cX5_lends 148 = .ok (.aload_n 0, 1) := by decide +kernel
theorem dX5_lends_149 : decode cX5_lends 149 = .ok (.getfield 163, 3) := by decide +kernel
theorem dX5_lends_152 : decode cX5_lends 152 = .ok (.iload_n 1, 1) := by decide +kernel
theorem dX5_lends_153 : decode cX5_lends 153 = .ok (.iastore, 1) := by decide +kernel
theorem dX5_lends_154 : decode cX5_lends 154 = .ok (.aload_n 0, 1) := by decide +kernel
theorem dX5_lends_155 : decode cX5_lends 155 = .ok (.getfield 55, 3) := by decide +kernel
theorem dX5_lends_158 : decode cX5_lends 158 = .ok (.aload_n 0, 1) := by decide +kernel
theorem dX5_lends_159 : decode cX5_lends 159 = .ok (.getfield 163, 3) := by decide +kernel
theorem dX5_lends_162 : decode cX5_lends 162 = .ok (.iload_n 2, 1) := by decide +kernel
theorem dX5_lends_163 : decode cX5_lends 163 = .ok (.iastore, 1) := by decide +kernel
theorem dX5_lends_164 : decode cX5_lends 164 = .ok (.aload_n 0, 1) := by decide +kernel
theorem dX5_lends_165 : decode cX5_lends 165 = .ok (.getfield 58, 3) := by decide +kernel
theorem dX5_lends_168 : decode cX5_lends 168 = .ok (.aload_n 0, 1) := by decide +kernel
theorem dX5_lends_169 : decode cX5_lends 169 = .ok (.getfield 163, 3) := by decide +kernel
theorem dX5_lends_172 : decode cX5_lends 172 = .ok (.iload 4, 2) := by decide +kernel
theorem dX5_lends_174 : decode cX5_lends 174 = .ok (.iastore, 1) := by decide +kernel
theorem dX5_lends_175 : decode cX5_lends 175 = .ok (.aload_n 0, 1) := by decide +kernel
theorem dX5_lends_176 : decode cX5_lends 176 = .ok (.getfield 61, 3) := by decide +kernel
theorem dX5_lends_179 : decode cX5_lends 179 = .ok (.aload_n 0, 1) := by decide +kernel
theorem dX5_lends_180 : decode cX5_lends 180 = .ok (.getfield 163, 3) := by decide +kernel
theorem dX5_lends_183 : decode cX5_lends 183 = .ok (.iload 5, 2) := by decide +kernel
theorem dX5_lends_185 : decode cX5_lends 185 = .ok (.iastore, 1) := by decide +kernel
theorem dX5_lends_186 : decode cX5_lends 186 = .ok (.aload_n 0, 1) := by decide +kernel
theorem dX5_lends_187 : decode cX5_lends 187 = .ok (.dup, 1) := by decide +kernel
theorem dX5_lends_188 : decode cX5_lends 188 = .ok (.getfield 163, 3) := by decide +kernel
theorem dX5_lends_191 : decode cX5_lends 191 = .ok (.iconst 1, 1) := by decide +kernel
theorem dX5_lends_192 : decode cX5_lends 192 = .ok (.iadd, 1) := by decide +kernel
theorem dX5_lends_193 : decode cX5_lends 193 = .ok (.putfield 163, 3) := by decide +kernel
theorem dX5_lends_196 : decode cX5_lends 196 = .ok (.aload_n 0, 1) := by decide +kernel
theorem dX5_lends_197 : decode cX5_lends 197 = .ok (.getfield 49, 3) := by decide +kernel
theorem dX5_lends_200 : decode cX5_lends 200 = .ok (.iconst 4, 1) := by decide +kernel
theorem dX5_lends_201 : decode cX5_lends 201 = .ok (.iload 4, 2) := by decide +kernel
theorem dX5_lends_203 : decode cX5_lends 203 = .ok (.imul, 1) := by decide +kernel
theorem dX5_lends_204 : decode cX5_lends 204 = .ok (.iload_n 2, 1) := by decide +kernel
theorem dX5_lends_205 : decode cX5_lends 205 = .ok (.iadd, 1) := by decide +kernel
theorem dX5_lends_206 : decode cX5_lends 206 = .ok (.dup2, 1) := by decide +kernel
theorem dX5_lends_207 : decode cX5_lends 207 = .ok (.iaload, 1) := by decide +kernel
theorem dX5_lends_208 : decode cX5_lends 208 = .ok (.iload 5, 2) := by decide +kernel
theorem dX5_lends_210 : decode cX5_lends 210 = .ok (.isub, 1) := by decide +kernel
theorem dX5_lends_211 : decode cX5_lends 211 = .ok (.iastore, 1) := by decide +kernel
theorem dX5_lends_212 : decode cX5_lends 212 = .ok (.aload_n 0, 1) := by decide +kernel
theorem dX5_lends_213 : decode cX5_lends 213 = .ok (.getfield 49, 3) := by decide +kernel
theorem dX5_lends_216 : decode cX5_lends 216 = .ok (.iconst 4, 1) := by decide +kernel
theorem dX5_lends_217 : decode cX5_lends 217 = .ok (.iload_n 1, 1) := by decide +kernel
theorem dX5_lends_218 : decode cX5_lends 218 = .ok (.imul, 1) := by decide +kernel
theorem dX5_lends_219 : decode cX5_lends 219 = .ok (.iload_n 2, 1) := by decide +kernel
theorem dX5_lends_220 : decode cX5_lends 220 = .ok (.iadd, 1) := by decide +kernel
theorem dX5_lends_221 : decode cX5_lends 221 = .ok (.dup2, 1) := by decide +kernel
theorem dX5_lends_222 : decode cX5_lends 222 = .ok (.iaload, 1) := by decide +kernel
theorem dX5_lends_223 : decode cX5_lends 223 = .ok (.iload 5, 2) := by decide +kernel
theorem dX5_lends_225 : decode cX5_lends 225 = .ok (.iadd, 1) := by decide +kernel
theorem dX5_lends_226 : decode cX5_lends 226 = .ok (.iastore, 1) := by decide +kernel
theorem dX5_lends_227 : decode cX5_lends 227 = .ok (.aload_n 0, 1) := by decide +kernel
theorem dX5_lends_228 : decode cX5_lends 228 = .ok (.getfield 46, 3) := by decide +kernel
theorem dX5_lends_231 : decode cX5_lends 231 = .ok (.iload 4, 2) := by decide +kernel
theorem dX5_lends_233 : decode cX5_lends 233 = .ok (.iconst 2, 1) := by decide +kernel
theorem dX5_lends_234 : decode cX5_lends 234 = .ok (.iastore, 1) := by decide +kernel
theorem dX5_lends_235 : decode cX5_lends 235 = .ok (.iload_n 3, 1) := by decide +kernel
theorem dX5_lends_236 : decode cX5_lends 236 = .ok (.iload 5, 2) := by decide +kernel
theorem dX5_lends_238 : decode cX5_lends 238 = .ok (.isub, 1) := by decide +kernel
theorem dX5_lends_239 : decode cX5_lends 239 = .ok (.istore_n 3, 1) := by decide +kernel
theorem dX5_lends_240 : decode cX5_lends 240 = .ok (.iinc 4 1, 3) := by decide +kernel
theorem dX5_lends_243 : decode cX5_lends 243 = .ok (.goto (-206), 3) := by decide +kernel
theorem dX5_lends_246 : decode cX5_lends 246 = .ok (.iinc 2 1, 3) := by decide +kernel
theorem dX5_lends_249 : decode cX5_lends 249 = .ok (.goto (-247), 3) := by decide +kernel
theorem dX5_lends_252 : decode cX5_lends 252 = .ok (.return_, 1) := by decide +kernel
theorem dX5_lendsTo_0 : decode cX5_lendsTo 0 = .ok (.iconst 0, 1) := by decide +kernel
theorem dX5_lendsTo_1 : decode cX5_lendsTo 1 = .ok (.istore_n 3, 1) := by decide +kernel
theorem dX5_lendsTo_2 : decode cX5_lendsTo 2 = .ok (.iconst 0, 1) := by decide +kernel
theorem dX5_lendsTo_3 : decode cX5_lendsTo 3 = .ok (.istore 4, 2) := by decide +kernel
theorem dX5_lendsTo_5 : decode cX5_lendsTo 5 = .ok (.iload 4, 2) := by decide +kernel
theorem dX5_lendsTo_7 : decode cX5_lendsTo 7 = .ok (.aload_n 0, 1) := by decide +kernel
theorem dX5_lendsTo_8 : decode cX5_lendsTo 8 = .ok (.getfield 163, 3) := by decide +kernel
theorem dX5_lendsTo_11 : decode cX5_lendsTo 11 = .ok (.if_icmp .ge 41, 3) := by decide +kernel
theorem dX5_lendsTo_14 : decode cX5_lendsTo 14 = .ok (.iload_n 3, 1) := by decide +kernel
theorem dX5_lendsTo_15 : decode cX5_lendsTo 15 = .ok (.ifCond .ne 25, 3) := by decide +kernel
theorem dX5_lendsTo_18 : decode cX5_lendsTo 18 = .ok (.aload_n 0, 1) := by decide +kernel
theorem dX5_lendsTo_19 : decode cX5_lendsTo 19 = .ok (.getfield 58, 3) := by decide +kernel
theorem dX5_lendsTo_22 : decode cX5_lendsTo 22 = .ok (.iload 4, 2) := by decide +kernel
theorem dX5_lendsTo_24 : decode cX5_lendsTo 24 = .ok (.iaload, 1) := by decide +kernel
theorem dX5_lendsTo_25 : decode cX5_lendsTo 25 = .ok (.iload_n 1, 1) := by decide +kernel
theorem dX5_lendsTo_26 : decode cX5_lendsTo 26 = .ok (.if_icmp .ne 18, 3) := by decide +kernel
theorem dX5_lendsTo_29 : decode cX5_lendsTo 29 = .ok (.aload_n 0, 1) := by decide +kernel
theorem dX5_lendsTo_30 : decode cX5_lendsTo 30 = .ok (.getfield 52, 3) := by decide +kernel
theorem dX5_lendsTo_33 : decode cX5_lendsTo 33 = .ok (.iload 4, 2) := by decide +kernel
theorem dX5_lendsTo_35 : decode cX5_lendsTo 35 = .ok (.iaload, 1) := by decide +kernel
theorem dX5_lendsTo_36 : decode cX5_lendsTo 36 = .ok (.iload_n 2, 1) := by decide +kernel
theorem dX5_lendsTo_37 : decode cX5_lendsTo 37 = .ok (.if_icmp .ne 7, 3) := by decide +kernel
theorem dX5_lendsTo_40 : decode cX5_lendsTo 40 = .ok (.iconst 1, 1) := by decide +kernel
theorem dX5_lendsTo_41 : decode cX5_lendsTo 41 = .ok (.goto 4, 3) := by decide +kernel
theorem dX5_lendsTo_44 : decode cX5_lendsTo 44 = .ok (.iconst 0, 1) := by decide +kernel
theorem dX5_lendsTo_45 : decode cX5_lendsTo 45 = .ok (.istore_n 3, 1) := by decide +kernel
theorem dX5_lendsTo_46 : decode cX5_lendsTo 46 = .ok (.iinc 4 1, 3) := by decide +kernel
theorem dX5_lendsTo_49 : decode cX5_lendsTo 49 = .ok (.goto (-44), 3) := by decide +kernel
theorem dX5_lendsTo_52 : decode cX5_lendsTo 52 = .ok (.iload_n 3, 1) := by decide +kernel
theorem dX5_lendsTo_53 : decode cX5_lendsTo 53 = .ok (.ireturn, 1) := by decide +kernel
set_option maxRecDepth 20000 in
theorem ggX5_serve_X5_isGroup : GoodIn wsX5_serve wsX5_isGroup := goodIn_r _ [7, 8, 9, 10, 6, 11, 70, 71, 72, 73, 74, 75, 76, 77, 78, 79, 80, 81, 82, 83, 84, 85, 86, 87, 88, 89, 90, 91, 92, 93, 94, 95, 96, 97, 98, 99, 100, 101, 102] (by decide +kernel) (by decide +kernel)
set_option maxRecDepth 20000 in
theorem gX5_serve_X5_isGroup : GoodIn wsX5_serve (wsV RX5 127 RX5 yX5_isGroup wsX5_isGroup) := goodIn_app (goodIn_of _ (by decide +kernel)) ggX5_serve_X5_isGroup
set_option maxRecDepth 20000 in
theorem ggX5_serve_X5_isTitle : GoodIn wsX5_serve wsX5_isTitle := goodIn_r _ [15, 16, 9, 10, 6, 11, 70, 71, 72, 73, 74, 75, 76, 77, 78, 79, 80, 81, 82, 83, 84, 85, 86, 87, 88, 89, 90, 91, 92, 93, 94, 95, 96, 97, 98, 99, 100, 101, 102] (by decide +kernel) (by decide +kernel)
set_option maxRecDepth 20000 in
theorem gX5_serve_X5_isTitle : GoodIn wsX5_serve (wsV RX5 109 RX5 yX5_isTitle wsX5_isTitle) := goodIn_app (goodIn_of _ (by decide +kernel)) ggX5_serve_X5_isTitle
set_option maxRecDepth 20000 in
theorem ggX5_serve_X5_isOffered : GoodIn wsX5_serve wsX5_isOffered := goodIn_r _ [20, 21, 2, 22, 23, 24, 25, 9, 10, 6, 11, 26, 27, 28, 29, 30, 31, 32, 33, 34, 35, 36, 37, 38, 39, 40, 41, 42, 1, 43, 44, 45, 46, 47, 48, 49, 50, 51, 70, 71, 72, 73, 74, 75, 76, 77, 78, 79, 80, 81, 82, 83, 84, 85, 86, 87, 88, 89, 90, 91, 92, 93, 94, 95, 96, 97, 98, 99, 100, 101, 102] (by decide +kernel) (by decide +kernel)
set_option maxRecDepth 20000 in
theorem gX5_serve_X5_isOffered : GoodIn wsX5_serve (wsV RX5 149 RX5 yX5_isOffered wsX5_isOffered) := goodIn_app (goodIn_of _ (by decide +kernel)) ggX5_serve_X5_isOffered
set_option maxRecDepth 20000 in
theorem ggX5_serve_X5_isFine : GoodIn wsX5_serve wsX5_isFine := goodIn_r _ [55, 56, 70, 71, 72, 73, 74, 75, 76, 77, 78, 79, 80, 81, 82, 83, 84, 85, 86, 87, 88, 89, 90, 91, 92, 93, 94, 95, 96, 97, 98, 99, 100, 101, 102] (by decide +kernel) (by decide +kernel)
set_option maxRecDepth 20000 in
theorem gX5_serve_X5_isFine : GoodIn wsX5_serve (wsV RX5 99 RX5 yX5_isFine wsX5_isFine) := goodIn_app (goodIn_of _ (by decide +kernel)) ggX5_serve_X5_isFine
set_option maxRecDepth 20000 in
theorem ggX5_serve_X5_bestCopy : GoodIn wsX5_serve wsX5_bestCopy := goodIn_r _ [36, 37, 38, 39, 40, 41, 6, 42, 1, 43, 44, 45, 46, 47, 48, 49, 50, 51, 70, 71, 72, 73, 74, 75, 76, 77, 78, 79, 80, 81, 82, 83, 84, 85, 86, 87, 88, 89, 90, 91, 92, 93, 94, 95, 96, 97, 98, 99, 100, 101, 102] (by decide +kernel) (by decide +kernel)
set_option maxRecDepth 20000 in
theorem gX5_serve_X5_bestCopy : GoodIn wsX5_serve (wsV RX5 146 RX5 yX5_bestCopy wsX5_bestCopy) := goodIn_app (goodIn_of _ (by decide +kernel)) ggX5_serve_X5_bestCopy
set_option maxRecDepth 20000 in
theorem ggX5_serve_X5_lends : GoodIn wsX5_serve wsX5_lends := goodIn_r _ [60, 47, 38, 48, 37, 1, 61, 62, 63, 64, 65, 66, 67, 68, 6, 69, 70, 71, 72, 73, 74, 75, 76, 77, 78, 79, 80, 81, 82, 83, 84, 85, 86, 87, 88, 89, 90, 91, 92, 93, 94, 95, 96, 97, 98, 99, 100, 101, 102] (by decide +kernel) (by decide +kernel)
set_option maxRecDepth 20000 in
theorem gX5_serve_X5_lends : GoodIn wsX5_serve (wsV RX5 166 RX5 yX5_lends wsX5_lends) := goodIn_app (goodIn_of _ (by decide +kernel)) ggX5_serve_X5_lends
theorem dX5_serve_0 : decode cX5_serve 0 = .ok (.aload_n 0, 1) := by decide +kernel
theorem dX5_serve_1 : decode cX5_serve 1 = .ok (.iload_n 1, 1) := by decide +kernel
theorem dX5_serve_2 : decode cX5_serve 2 = .ok (.invokevirtual 127, 3) := by decide +kernel
theorem dX5_serve_5 : decode cX5_serve 5 = .ok (.ifCond .eq 15, 3) := by decide +kernel
theorem dX5_serve_8 : decode cX5_serve 8 = .ok (.aload_n 0, 1) := by decide +kernel
theorem dX5_serve_9 : decode cX5_serve 9 = .ok (.iload_n 2, 1) := by decide +kernel
theorem dX5_serve_10 : decode cX5_serve 10 = .ok (.invokevirtual 109, 3) := by decide +kernel
theorem dX5_serve_13 : decode cX5_serve 13 = .ok (.ifCond .eq 7, 3) := by decide +kernel
theorem dX5_serve_16 : decode cX5_serve 16 = .ok (.iconst 1, 1) := by decide +kernel
theorem dX5_serve_17 : decode cX5_serve 17 = .ok (.goto 4, 3) := by decide +kernel
theorem dX5_serve_20 : decode cX5_serve 20 = .ok (.iconst 0, 1) := by decide +kernel
theorem dX5_serve_21 : decode cX5_serve 21 = .ok (.istore_n 3, 1) := by decide +kernel
theorem dX5_serve_22 : decode cX5_serve 22 = .ok (.aload_n 0, 1) := by decide +kernel
theorem dX5_serve_23 : decode cX5_serve 23 = .ok (.iload_n 3, 1) := by decide +kernel
theorem dX5_serve_24 : decode cX5_serve 24 = .ok (.ifCond .ne 7, 3) := by decide +kernel
theorem dX5_serve_27 : decode cX5_serve 27 = .ok (.iconst 1, 1) := by decide +kernel
theorem dX5_serve_28 : decode cX5_serve 28 = .ok (.goto 17, 3) := by decide +kernel
theorem dX5_serve_31 : decode cX5_serve 31 = .ok (.aload_n 0, 1) := by decide +kernel
theorem dX5_serve_32 : decode cX5_serve 32 = .ok (.iload_n 1, 1) := by decide +kernel
theorem dX5_serve_33 : decode cX5_serve 33 = .ok (.iload_n 2, 1) := by decide +kernel
theorem dX5_serve_34 : decode cX5_serve 34 = .ok (.invokevirtual 149, 3) := by decide +kernel
theorem dX5_serve_37 : decode cX5_serve 37 = .ok (.ifCond .ne 7, 3) := by decide +kernel
theorem dX5_serve_40 : decode cX5_serve 40 = .ok (.iconst 2, 1) := by decide +kernel
theorem dX5_serve_41 : decode cX5_serve 41 = .ok (.goto 4, 3) := by decide +kernel
theorem dX5_serve_44 : decode cX5_serve 44 = .ok (.iconst 0, 1) := by decide +kernel
theorem dX5_serve_45 : decode cX5_serve 45 = .ok (.invokevirtual 99, 3) := by decide +kernel
theorem dX5_serve_48 : decode cX5_serve 48 = .ok (.ifCond .ne 5, 3) := by decide +kernel
theorem dX5_serve_51 : decode cX5_serve 51 = .ok (.iconst 0, 1) := by decide +kernel
theorem dX5_serve_52 : decode cX5_serve 52 = .ok (.ireturn, 1) := by decide +kernel
theorem dX5_serve_53 : decode cX5_serve 53 = .ok (.aload_n 0, 1) := by decide +kernel
theorem dX5_serve_54 : decode cX5_serve 54 = .ok (.iload_n 2, 1) := by decide +kernel
theorem dX5_serve_55 : decode cX5_serve 55 = .ok (.invokevirtual 146, 3) := by decide +kernel
theorem dX5_serve_58 : decode cX5_serve 58 = .ok (.istore 4, 2) := by decide +kernel
theorem dX5_serve_60 : decode cX5_serve 60 = .ok (.aload_n 0, 1) := by decide +kernel
theorem dX5_serve_61 : decode cX5_serve 61 = .ok (.iload 4, 2) := by decide +kernel
theorem dX5_serve_63 : decode cX5_serve 63 = .ok (.invokevirtual 166, 3) := by decide +kernel
theorem dX5_serve_66 : decode cX5_serve 66 = .ok (.aload_n 0, 1) := by decide +kernel
theorem dX5_serve_67 : decode cX5_serve 67 = .ok (.getfield 46, 3) := by decide +kernel
theorem dX5_serve_70 : decode cX5_serve 70 = .ok (.iload 4, 2) := by decide +kernel
theorem dX5_serve_72 : decode cX5_serve 72 = .ok (.iconst 1, 1) := by decide +kernel
theorem dX5_serve_73 : decode cX5_serve 73 = .ok (.iastore, 1) := by decide +kernel
theorem dX5_serve_74 : decode cX5_serve 74 = .ok (.aload_n 0, 1) := by decide +kernel
theorem dX5_serve_75 : decode cX5_serve 75 = .ok (.getfield 28, 3) := by decide +kernel
theorem dX5_serve_78 : decode cX5_serve 78 = .ok (.iload_n 1, 1) := by decide +kernel
theorem dX5_serve_79 : decode cX5_serve 79 = .ok (.iload 4, 2) := by decide +kernel
theorem dX5_serve_81 : decode cX5_serve 81 = .ok (.iastore, 1) := by decide +kernel
theorem dX5_serve_82 : decode cX5_serve 82 = .ok (.iload 4, 2) := by decide +kernel
theorem dX5_serve_84 : decode cX5_serve 84 = .ok (.ireturn, 1) := by decide +kernel
theorem dX5_closes_0 : decode cX5_closes 0 = .ok (.iconst 0, 1) := by decide +kernel
theorem dX5_closes_1 : decode cX5_closes 1 = .ok (.istore_n 2, 1) := by decide +kernel
theorem dX5_closes_2 : decode cX5_closes 2 = .ok (.aload_n 0, 1) := by decide +kernel
theorem dX5_closes_3 : decode cX5_closes 3 = .ok (.getfield 163, 3) := by decide +kernel
theorem dX5_closes_6 : decode cX5_closes 6 = .ok (.iconst 1, 1) := by decide +kernel
theorem dX5_closes_7 : decode cX5_closes 7 = .ok (.isub, 1) := by decide +kernel
theorem dX5_closes_8 : decode cX5_closes 8 = .ok (.istore_n 3, 1) := by decide +kernel
theorem dX5_closes_9 : decode cX5_closes 9 = .ok (.iload_n 3, 1) := by decide +kernel
theorem dX5_closes_10 : decode cX5_closes 10 = .ok (.ifCond .lt 212, 3) := by decide +kernel
theorem dX5_closes_13 : decode cX5_closes 13 = .ok (.aload_n 0, 1) := by decide +kernel
theorem dX5_closes_14 : decode cX5_closes 14 = .ok (.getfield 52, 3) := by decide +kernel
theorem dX5_closes_17 : decode cX5_closes 17 = .ok (.iload_n 3, 1) := by decide +kernel
theorem dX5_closes_18 : decode cX5_closes 18 = .ok (.iaload, 1) := by decide +kernel
theorem dX5_closes_19 : decode cX5_closes 19 = .ok (.iload_n 1, 1) := by decide +kernel
theorem dX5_closes_20 : decode cX5_closes 20 = .ok (.if_icmp .ne 196, 3) := by decide +kernel
theorem dX5_closes_23 : decode cX5_closes 23 = .ok (.aload_n 0, 1) := by decide +kernel
theorem dX5_closes_24 : decode cX5_closes 24 = .ok (.getfield 49, 3) := by decide +kernel
theorem dX5_closes_27 : decode cX5_closes 27 = .ok (.iconst 4, 1) := by decide +kernel
theorem dX5_closes_28 : decode cX5_closes 28 = .ok (.iload_n 1, 1) := by decide +kernel
theorem dX5_closes_29 : decode cX5_closes 29 = .ok (.imul, 1) := by decide +kernel
theorem dX5_closes_30 : decode cX5_closes 30 = .ok (.aload_n 0, 1) := by decide +kernel
theorem dX5_closes_31 : decode cX5_closes 31 = .ok (.getfield 55, 3) := by decide +kernel
theorem dX5_closes_34 : decode cX5_closes 34 = .ok (.iload_n 3, 1) := by decide +kernel
theorem dX5_closes_35 : decode cX5_closes 35 = .ok (.iaload, 1) := by decide +kernel
theorem dX5_closes_36 : decode cX5_closes 36 = .ok (.iadd, 1) := by decide +kernel
theorem dX5_closes_37 : decode cX5_closes 37 = .ok (.iaload, 1) := by decide +kernel
theorem dX5_closes_38 : decode cX5_closes 38 = .ok (.istore 4, 2) := by decide +kernel
theorem dX5_closes_40 : decode cX5_closes 40 = .ok (.aload_n 0, 1) := by decide +kernel
theorem dX5_closes_41 : decode cX5_closes 41 = .ok (.getfield 61, 3) := by decide +kernel
theorem dX5_closes_44 : decode cX5_closes 44 = .ok (.iload_n 3, 1) := by decide +kernel
theorem dX5_closes_45 : decode cX5_closes 45 = .ok (.iaload, 1) := by decide +kernel
theorem dX5_closes_46 : decode cX5_closes 46 = .ok (.iload 4, 2) := by decide +kernel
theorem dX5_closes_48 : decode cX5_closes 48 = .ok (.if_icmp .le 8, 3) := by decide +kernel
theorem dX5_closes_51 : decode cX5_closes 51 = .ok (.iload 4, 2) := by decide +kernel
theorem dX5_closes_53 : decode cX5_closes 53 = .ok (.goto 9, 3) := by decide +kernel
theorem dX5_closes_56 : decode cX5_closes 56 = .ok (.aload_n 0, 1) := by decide +kernel
theorem dX5_closes_57 : decode cX5_closes 57 = .ok (.getfield 61, 3) := by decide +kernel
theorem dX5_closes_60 : decode cX5_closes 60 = .ok (.iload_n 3, 1) := by decide +kernel
theorem dX5_closes_61 : decode cX5_closes 61 = .ok (.iaload, 1) := by decide +kernel
theorem dX5_closes_62 : decode cX5_closes 62 = .ok (.istore 5, 2) := by decide +kernel
theorem dX5_closes_64 : decode cX5_closes 64 = .ok (.aload_n 0, 1) := by decide +kernel
theorem dX5_closes_65 : decode cX5_closes 65 = .ok (.getfield 49, 3) := by decide +kernel
theorem dX5_closes_68 : decode cX5_closes 68 = .ok (.iconst 4, 1) := by decide +kernel
theorem dX5_closes_69 : decode cX5_closes 69 = .ok (.iload_n 1, 1) := by decide +kernel
theorem dX5_closes_70 : decode cX5_closes 70 = .ok (.imul, 1) := by decide +kernel
theorem dX5_closes_71 : decode cX5_closes 71 = .ok (.aload_n 0, 1) := by decide +kernel
theorem dX5_closes_72 : decode cX5_closes 72 = .ok (.getfield 55, 3) := by decide +kernel
theorem dX5_closes_75 : decode cX5_closes 75 = .ok (.iload_n 3, 1) := by decide +kernel
theorem dX5_closes_76 : decode cX5_closes 76 = .ok (.iaload, 1) := by decide +kernel
theorem dX5_closes_77 : decode cX5_closes 77 = .ok (.iadd, 1) := by decide +kernel
theorem dX5_closes_78 : decode cX5_closes 78 = .ok (.dup2, 1) := by decide +kernel
theorem dX5_closes_79 : decode cX5_closes 79 = .ok (.iaload, 1) := by decide +kernel
theorem dX5_closes_80 : decode cX5_closes 80 = .ok (.iload 5, 2) := by decide +kernel
theorem dX5_closes_82 : decode cX5_closes 82 = .ok (.isub, 1) := by decide +kernel
theorem dX5_closes_83 : decode cX5_closes 83 = .ok (.iastore, 1) := by decide +kernel
theorem dX5_closes_84 : decode cX5_closes 84 = .ok (.aload_n 0, 1) := by decide +kernel
theorem dX5_closes_85 : decode cX5_closes 85 = .ok (.getfield 49, 3) := by decide +kernel
theorem dX5_closes_88 : decode cX5_closes 88 = .ok (.iconst 4, 1) := by decide +kernel
theorem dX5_closes_89 : decode cX5_closes 89 = .ok (.aload_n 0, 1) := by decide +kernel
theorem dX5_closes_90 : decode cX5_closes 90 = .ok (.getfield 58, 3) := by decide +kernel
theorem dX5_closes_93 : decode cX5_closes 93 = .ok (.iload_n 3, 1) := by decide +kernel
theorem dX5_closes_94 : decode cX5_closes 94 = .ok (.iaload, 1) := by decide +kernel
theorem dX5_closes_95 : decode cX5_closes 95 = .ok (.imul, 1) := by decide +kernel
theorem dX5_closes_96 : decode cX5_closes 96 = .ok (.aload_n 0, 1) := by decide +kernel
theorem dX5_closes_97 : decode cX5_closes 97 = .ok (.getfield 55, 3) := by decide +kernel
theorem dX5_closes_100 : decode cX5_closes 100 = .ok (.iload_n 3, 1) := by decide +kernel
theorem dX5_closes_101 : decode cX5_closes 101 = .ok (.iaload, 1) := by decide +kernel
theorem dX5_closes_102 : decode cX5_closes 102 = .ok (.iadd, 1) := by decide +kernel
theorem dX5_closes_103 : decode cX5_closes 103 = .ok (.dup2, 1) := by decide +kernel
theorem dX5_closes_104 : decode cX5_closes 104 = .ok (.iaload, 1) := by decide +kernel
theorem dX5_closes_105 : decode cX5_closes 105 = .ok (.iload 5, 2) := by decide +kernel
theorem dX5_closes_107 : decode cX5_closes 107 = .ok (.iadd, 1) := by decide +kernel
theorem dX5_closes_108 : decode cX5_closes 108 = .ok (.iastore, 1) := by decide +kernel
theorem dX5_closes_109 : decode cX5_closes 109 = .ok (.aload_n 0, 1) := by decide +kernel
theorem dX5_closes_110 : decode cX5_closes 110 = .ok (.getfield 46, 3) := by decide +kernel
theorem dX5_closes_113 : decode cX5_closes 113 = .ok (.aload_n 0, 1) := by decide +kernel
theorem dX5_closes_114 : decode cX5_closes 114 = .ok (.getfield 58, 3) := by decide +kernel
theorem dX5_closes_117 : decode cX5_closes 117 = .ok (.iload_n 3, 1) := by decide +kernel
theorem dX5_closes_118 : decode cX5_closes 118 = .ok (.iaload, 1) := by decide +kernel
theorem dX5_closes_119 : decode cX5_closes 119 = .ok (.iconst 0, 1) := by decide +kernel
theorem dX5_closes_120 : decode cX5_closes 120 = .ok (.iastore, 1) := by decide +kernel
theorem dX5_closes_121 : decode cX5_closes 121 = .ok (.iinc 2 1, 3) := by decide +kernel
theorem dX5_closes_124 : decode cX5_closes 124 = .ok (.aload_n 0, 1) := by decide +kernel
theorem dX5_closes_125 : decode cX5_closes 125 = .ok (.dup, 1) := by decide +kernel
theorem dX5_closes_126 : decode cX5_closes 126 = .ok (.getfield 163, 3) := by decide +kernel
theorem dX5_closes_129 : decode cX5_closes 129 = .ok (.iconst 1, 1) := by decide +kernel
theorem dX5_closes_130 : decode cX5_closes 130 = .ok (.isub, 1) := by decide +kernel
theorem dX5_closes_131 : decode cX5_closes 131 = .ok (.putfield 163, 3) := by decide +kernel
theorem dX5_closes_134 : decode cX5_closes 134 = .ok (.iload_n 3, 1) := by decide +kernel
theorem dX5_closes_135 : decode cX5_closes 135 = .ok (.istore 6, 2) := by decide +kernel
theorem dX5_closes_137 : decode cX5_closes 137 = .ok (.iload 6, 2) := by decide +kernel
theorem dX5_closes_139 : decode cX5_closes 139 = .ok (.aload_n 0, 1) := by decide +kernel
theorem dX5_closes_140 : decode cX5_closes 140 = .ok (.getfield 163, 3) := by decide +kernel
theorem dX5_closes_143 : decode cX5_closes 143 = .ok (.if_icmp .ge 73, 3) := by decide +kernel
theorem dX5_closes_146 : decode cX5_closes 146 = .ok (.aload_n 0, 1) := by decide +kernel
theorem dX5_closes_147 : decode cX5_closes 147 = .ok (.getfield 52, 3) := by decide +kernel
theorem dX5_closes_150 : decode cX5_closes 150 = .ok (.iload 6, 2) := by decide +kernel
theorem dX5_closes_152 : decode cX5_closes 152 = .ok (.aload_n 0, 1) := by decide +kernel
theorem dX5_closes_153 : decode cX5_closes 153 = .ok (.getfield 52, 3) := by decide +kernel
theorem dX5_closes_156 : decode cX5_closes 156 = .ok (.iload 6, 2) := by decide +kernel
theorem dX5_closes_158 : decode cX5_closes 158 = .ok (.iconst 1, 1) := by decide +kernel
theorem dX5_closes_159 : decode cX5_closes 159 = .ok (.iadd, 1) := by decide +kernel
theorem dX5_closes_160 : decode cX5_closes 160 = .ok (.iaload, 1) := by decide +kernel
theorem dX5_closes_161 : decode cX5_closes 161 = .ok (.iastore, 1) := by decide +kernel
theorem dX5_closes_162 : decode cX5_closes 162 = .ok (.aload_n 0, 1) := by decide +kernel
theorem dX5_closes_163 : decode cX5_closes 163 = .ok (.getfield 55, 3) := by decide +kernel
theorem dX5_closes_166 : decode cX5_closes 166 = .ok (.iload 6, 2) := by decide +kernel
theorem dX5_closes_168 : decode cX5_closes 168 = .ok (.aload_n 0, 1) := by decide +kernel
theorem dX5_closes_169 : decode cX5_closes 169 = .ok (.getfield 55, 3) := by decide +kernel
theorem dX5_closes_172 : decode cX5_closes 172 = .ok (.iload 6, 2) := by decide +kernel
theorem dX5_closes_174 : decode cX5_closes 174 = .ok (.iconst 1, 1) := by decide +kernel
theorem dX5_closes_175 : decode cX5_closes 175 = .ok (.iadd, 1) := by decide +kernel
theorem dX5_closes_176 : decode cX5_closes 176 = .ok (.iaload, 1) := by decide +kernel
theorem dX5_closes_177 : decode cX5_closes 177 = .ok (.iastore, 1) := by decide +kernel
theorem dX5_closes_178 : decode cX5_closes 178 = .ok (.aload_n 0, 1) := by decide +kernel
theorem dX5_closes_179 : decode cX5_closes 179 = .ok (.getfield 58, 3) := by decide +kernel
theorem dX5_closes_182 : decode cX5_closes 182 = .ok (.iload 6, 2) := by decide +kernel
theorem dX5_closes_184 : decode cX5_closes 184 = .ok (.aload_n 0, 1) := by decide +kernel
theorem dX5_closes_185 : decode cX5_closes 185 = .ok (.getfield 58, 3) := by decide +kernel
theorem dX5_closes_188 : decode cX5_closes 188 = .ok (.iload 6, 2) := by decide +kernel
theorem dX5_closes_190 : decode cX5_closes 190 = .ok (.iconst 1, 1) := by decide +kernel
theorem dX5_closes_191 : decode cX5_closes 191 = .ok (.iadd, 1) := by decide +kernel
theorem dX5_closes_192 : decode cX5_closes 192 = .ok (.iaload, 1) := by decide +kernel
theorem dX5_closes_193 : decode cX5_closes 193 = .ok (.iastore, 1) := by decide +kernel
theorem dX5_closes_194 : decode cX5_closes 194 = .ok (.aload_n 0, 1) := by decide +kernel
theorem dX5_closes_195 : decode cX5_closes 195 = .ok (.getfield 61, 3) := by decide +kernel
theorem dX5_closes_198 : decode cX5_closes 198 = .ok (.iload 6, 2) := by decide +kernel
theorem dX5_closes_200 : decode cX5_closes 200 = .ok (.aload_n 0, 1) := by decide +kernel
theorem dX5_closes_201 : decode cX5_closes 201 = .ok (.getfield 61, 3) := by decide +kernel
theorem dX5_closes_204 : decode cX5_closes 204 = .ok (.iload 6, 2) := by decide +kernel
theorem dX5_closes_206 : decode cX5_closes 206 = .ok (.iconst 1, 1) := by decide +kernel
theorem dX5_closes_207 : decode cX5_closes 207 = .ok (.iadd, 1) := by decide +kernel
theorem dX5_closes_208 : decode cX5_closes 208 = .ok (.iaload, 1) := by decide +kernel
theorem dX5_closes_209 : decode cX5_closes 209 = .ok (.iastore, 1) := by decide +kernel
theorem dX5_closes_210 : decode cX5_closes 210 = .ok (.iinc 6 1, 3) := by decide +kernel
theorem dX5_closes_213 : decode cX5_closes 213 = .ok (.goto (-76), 3) := by decide +kernel
theorem dX5_closes_216 : decode cX5_closes 216 = .ok (.iinc 3 (-1), 3) := by decide +kernel
theorem dX5_closes_219 : decode cX5_closes 219 = .ok (.goto (-210), 3) := by decide +kernel
theorem dX5_closes_222 : decode cX5_closes 222 = .ok (.iload_n 2, 1) := by decide +kernel
theorem dX5_closes_223 : decode cX5_closes 223 = .ok (.ireturn, 1) := by decide +kernel
set_option maxRecDepth 20000 in
theorem ggX5_giveBack_X5_isGroup : GoodIn wsX5_giveBack wsX5_isGroup := goodIn_r _ [8, 9, 10, 11, 7, 12, 33, 34, 35, 36, 37, 38, 39, 40, 41, 42, 43, 44, 45, 46, 47, 48, 49, 50, 51, 52, 53, 54, 55, 56, 57, 58, 59, 60, 61, 62, 63, 64, 65] (by decide +kernel) (by decide +kernel)
set_option maxRecDepth 20000 in
theorem gX5_giveBack_X5_isGroup : GoodIn wsX5_giveBack (wsV RX5 127 RX5 yX5_isGroup wsX5_isGroup) := goodIn_app (goodIn_of _ (by decide +kernel)) ggX5_giveBack_X5_isGroup
set_option maxRecDepth 20000 in
theorem ggX5_giveBack_X5_isKind : GoodIn wsX5_giveBack wsX5_isKind := goodIn_r _ [15, 10, 11, 7, 12] (by decide +kernel) (by decide +kernel)
set_option maxRecDepth 20000 in
theorem gX5_giveBack_X5_isKind : GoodIn wsX5_giveBack (va_wsS RX5 170 yX5_isKind wsX5_isKind) := goodIn_app (goodIn_of _ (by decide +kernel)) ggX5_giveBack_X5_isKind
set_option maxRecDepth 20000 in
theorem ggX5_giveBack_X5_arePieces : GoodIn wsX5_giveBack wsX5_arePieces := goodIn_r _ [18, 10, 11, 7, 12] (by decide +kernel) (by decide +kernel)
set_option maxRecDepth 20000 in
theorem gX5_giveBack_X5_arePieces : GoodIn wsX5_giveBack (va_wsS RX5 106 yX5_arePieces wsX5_arePieces) := goodIn_app (goodIn_of _ (by decide +kernel)) ggX5_giveBack_X5_arePieces
set_option maxRecDepth 20000 in
theorem ggX5_giveBack_X5_isFine : GoodIn wsX5_giveBack wsX5_isFine := goodIn_r _ [22, 23, 33, 34, 35, 36, 37, 38, 39, 40, 41, 42, 43, 44, 45, 46, 47, 48, 49, 50, 51, 52, 53, 54, 55, 56, 57, 58, 59, 60, 61, 62, 63, 64, 65] (by decide +kernel) (by decide +kernel)
set_option maxRecDepth 20000 in
theorem gX5_giveBack_X5_isFine : GoodIn wsX5_giveBack (wsV RX5 99 RX5 yX5_isFine wsX5_isFine) := goodIn_app (goodIn_of _ (by decide +kernel)) ggX5_giveBack_X5_isFine
set_option maxRecDepth 20000 in
theorem ggX5_giveBack_X5_closes : GoodIn wsX5_giveBack wsX5_closes := goodIn_r _ [27, 28, 29, 2, 30, 31, 32, 3, 33, 34, 35, 36, 37, 38, 39, 40, 41, 42, 43, 44, 45, 46, 47, 48, 49, 50, 51, 52, 53, 54, 55, 56, 57, 58, 59, 60, 61, 62, 63, 64, 65] (by decide +kernel) (by decide +kernel)
set_option maxRecDepth 20000 in
theorem gX5_giveBack_X5_closes : GoodIn wsX5_giveBack (wsV RX5 173 RX5 yX5_closes wsX5_closes) := goodIn_app (goodIn_of _ (by decide +kernel)) ggX5_giveBack_X5_closes
theorem dX5_giveBack_0 : decode cX5_giveBack 0 = .ok (.aload_n 0, 1) := by decide +kernel
theorem dX5_giveBack_1 : decode cX5_giveBack 1 = .ok (.iload_n 1, 1) := by decide +kernel
theorem dX5_giveBack_2 : decode cX5_giveBack 2 = .ok (.invokevirtual 127, 3) := by decide +kernel
theorem dX5_giveBack_5 : decode cX5_giveBack 5 = .ok (.ifCond .eq 14, 3) := by decide +kernel
theorem dX5_giveBack_8 : decode cX5_giveBack 8 = .ok (.iload_n 2, 1) := by decide +kernel
theorem dX5_giveBack_9 : decode cX5_giveBack 9 = .ok (.invokestatic 170, 3) := by decide +kernel
theorem dX5_giveBack_12 : decode cX5_giveBack 12 = .ok (.ifCond .eq 7, 3) := by decide +kernel
theorem dX5_giveBack_15 : decode cX5_giveBack 15 = .ok (.iconst 1, 1) := by decide +kernel
theorem dX5_giveBack_16 : decode cX5_giveBack 16 = .ok (.goto 4, 3) := by decide +kernel
theorem dX5_giveBack_19 : decode cX5_giveBack 19 = .ok (.iconst 0, 1) := by decide +kernel
theorem dX5_giveBack_20 : decode cX5_giveBack 20 = .ok (.istore 4, 2) := by decide +kernel
theorem dX5_giveBack_22 : decode cX5_giveBack 22 = .ok (.iload 4, 2) := by decide +kernel
theorem dX5_giveBack_24 : decode cX5_giveBack 24 = .ok (.ifCond .eq 17, 3) := by decide +kernel
theorem dX5_giveBack_27 : decode cX5_giveBack 27 = .ok (.aload_n 0, 1) := by decide +kernel
theorem dX5_giveBack_28 : decode cX5_giveBack 28 = .ok (.getfield 28, 3) := by decide +kernel
theorem dX5_giveBack_31 : decode cX5_giveBack 31 = .ok (.iload_n 1, 1) := by decide +kernel
theorem dX5_giveBack_32 : decode cX5_giveBack 32 = .ok (.iaload, 1) := by decide +kernel
theorem dX5_giveBack_33 : decode cX5_giveBack 33 = .ok (.iconst (-1), 1) := by decide +kernel
theorem dX5_giveBack_34 : decode cX5_giveBack 34 = .ok (.if_icmp .eq 7, 3) := by decide +kernel
theorem dX5_giveBack_37 : decode cX5_giveBack 37 = .ok (.iconst 1, 1) := by decide +kernel
theorem dX5_giveBack_38 : decode cX5_giveBack 38 = .ok (.goto 4, 3) := by decide +kernel
theorem dX5_giveBack_41 : decode cX5_giveBack 41 = .ok (.iconst 0, 1) := by decide +kernel
theorem dX5_giveBack_42 : decode cX5_giveBack 42 = .ok (.istore 5, 2) := by decide +kernel
theorem dX5_giveBack_44 : decode cX5_giveBack 44 = .ok (.iload 5, 2) := by decide +kernel
theorem dX5_giveBack_46 : decode cX5_giveBack 46 = .ok (.ifCond .eq 26, 3) := by decide +kernel
theorem dX5_giveBack_49 : decode cX5_giveBack 49 = .ok (.aload_n 0, 1) := by decide +kernel
theorem dX5_giveBack_50 : decode cX5_giveBack 50 = .ok (.getfield 49, 3) := by decide +kernel
theorem dX5_giveBack_53 : decode cX5_giveBack 53 = .ok (.iconst 4, 1) := by decide +kernel
theorem dX5_giveBack_54 : decode cX5_giveBack 54 = .ok (.aload_n 0, 1) := by decide +kernel
theorem dX5_giveBack_55 : decode cX5_giveBack 55 = .ok (.getfield 28, 3) := by decide +kernel
theorem dX5_giveBack_58 : decode cX5_giveBack 58 = .ok (.iload_n 1, 1) := by decide +kernel
theorem dX5_giveBack_59 : decode cX5_giveBack 59 = .ok (.iaload, 1) := by decide +kernel
theorem dX5_giveBack_60 : decode cX5_giveBack 60 = .ok (.imul, 1) := by decide +kernel
theorem dX5_giveBack_61 : decode cX5_giveBack 61 = .ok (.iload_n 2, 1) := by decide +kernel
theorem dX5_giveBack_62 : decode cX5_giveBack 62 = .ok (.iadd, 1) := by decide +kernel
theorem dX5_giveBack_63 : decode cX5_giveBack 63 = .ok (.iaload, 1) := by decide +kernel
theorem dX5_giveBack_64 : decode cX5_giveBack 64 = .ok (.iload_n 3, 1) := by decide +kernel
theorem dX5_giveBack_65 : decode cX5_giveBack 65 = .ok (.if_icmp .lt 7, 3) := by decide +kernel
theorem dX5_giveBack_68 : decode cX5_giveBack 68 = .ok (.iconst 1, 1) := by decide +kernel
theorem dX5_giveBack_69 : decode cX5_giveBack 69 = .ok (.goto 4, 3) := by decide +kernel
theorem dX5_giveBack_72 : decode cX5_giveBack 72 = .ok (.iconst 0, 1) := by decide +kernel
theorem dX5_giveBack_73 : decode cX5_giveBack 73 = .ok (.istore 5, 2) := by decide +kernel
theorem dX5_giveBack_75 : decode cX5_giveBack 75 = .ok (.aload_n 0, 1) := by decide +kernel
theorem dX5_giveBack_76 : decode cX5_giveBack 76 = .ok (.iload 4, 2) := by decide +kernel
theorem dX5_giveBack_78 : decode cX5_giveBack 78 = .ok (.ifCond .ne 7, 3) := by decide +kernel
theorem dX5_giveBack_81 : decode cX5_giveBack 81 = .ok (.iconst 1, 1) := by decide +kernel
theorem dX5_giveBack_82 : decode cX5_giveBack 82 = .ok (.goto 24, 3) := by decide +kernel
theorem dX5_giveBack_85 : decode cX5_giveBack 85 = .ok (.iload_n 3, 1) := by decide +kernel
theorem dX5_giveBack_86 : decode cX5_giveBack 86 = .ok (.invokestatic 106, 3) := by decide +kernel
theorem dX5_giveBack_89 : decode cX5_giveBack 89 = .ok (.ifCond .ne 7, 3) := by decide +kernel
theorem dX5_giveBack_92 : decode cX5_giveBack 92 = .ok (.iconst 2, 1) := by decide +kernel
theorem dX5_giveBack_93 : decode cX5_giveBack 93 = .ok (.goto 13, 3) := by decide +kernel
theorem dX5_giveBack_96 : decode cX5_giveBack 96 = .ok (.iload 5, 2) := by decide +kernel
theorem dX5_giveBack_98 : decode cX5_giveBack 98 = .ok (.ifCond .ne 7, 3) := by decide +kernel
theorem dX5_giveBack_101 : decode cX5_giveBack 101 = .ok (.iconst 3, 1) := by decide +kernel
theorem dX5_giveBack_102 : decode cX5_giveBack 102 = .ok (.goto 4, 3) := by decide +kernel
theorem dX5_giveBack_105 : decode cX5_giveBack 105 = .ok (.iconst 0, 1) := by decide +kernel
theorem dX5_giveBack_106 : decode cX5_giveBack 106 = .ok (.invokevirtual 99, 3) := by decide +kernel
theorem dX5_giveBack_109 : decode cX5_giveBack 109 = .ok (.ifCond .ne 5, 3) := by decide +kernel
theorem dX5_giveBack_112 : decode cX5_giveBack 112 = .ok (.iconst 0, 1) := by decide +kernel
theorem dX5_giveBack_113 : decode cX5_giveBack 113 = .ok (.ireturn, 1) := by decide +kernel
theorem dX5_giveBack_114 : decode cX5_giveBack 114 = .ok (.aload_n 0, 1) := by decide +kernel
theorem dX5_giveBack_115 : decode cX5_giveBack 115 = .ok (.getfield 28, 3) := by decide +kernel
theorem dX5_giveBack_118 : decode cX5_giveBack 118 = .ok (.iload_n 1, 1) := by decide +kernel
theorem dX5_giveBack_119 : decode cX5_giveBack 119 = .ok (.iaload, 1) := by decide +kernel
theorem dX5_giveBack_120 : decode cX5_giveBack 120 = .ok (.istore 6, 2) := by decide +kernel
theorem dX5_giveBack_122 : decode cX5_giveBack 122 = .ok (.aload_n 0, 1) := by decide +kernel
theorem dX5_giveBack_123 : decode cX5_giveBack 123 = .ok (.getfield 49, 3) := by decide +kernel
theorem dX5_giveBack_126 : decode cX5_giveBack 126 = .ok (.iconst 4, 1) := by decide +kernel
theorem dX5_giveBack_127 : decode cX5_giveBack 127 = .ok (.iload 6, 2) := by decide +kernel
theorem dX5_giveBack_129 : decode cX5_giveBack 129 = .ok (.imul, 1) := by decide +kernel
theorem dX5_giveBack_130 : decode cX5_giveBack 130 = .ok (.iload_n 2, 1) := by decide +kernel
theorem dX5_giveBack_131 : decode cX5_giveBack 131 = .ok (.iadd, 1) := by decide +kernel
theorem dX5_giveBack_132 : decode cX5_giveBack 132 = .ok (.dup2, 1) := by decide +kernel
theorem dX5_giveBack_133 : decode cX5_giveBack 133 = .ok (.iaload, 1) := by decide +kernel
theorem dX5_giveBack_134 : decode cX5_giveBack 134 = .ok (.iload_n 3, 1) := by decide +kernel
theorem dX5_giveBack_135 : decode cX5_giveBack 135 = .ok (.isub, 1) := by decide +kernel
theorem dX5_giveBack_136 : decode cX5_giveBack 136 = .ok (.iastore, 1) := by decide +kernel
theorem dX5_giveBack_137 : decode cX5_giveBack 137 = .ok (.aload_n 0, 1) := by decide +kernel
theorem dX5_giveBack_138 : decode cX5_giveBack 138 = .ok (.getfield 28, 3) := by decide +kernel
theorem dX5_giveBack_141 : decode cX5_giveBack 141 = .ok (.iload_n 1, 1) := by decide +kernel
theorem dX5_giveBack_142 : decode cX5_giveBack 142 = .ok (.iconst (-1), 1) := by decide +kernel
theorem dX5_giveBack_143 : decode cX5_giveBack 143 = .ok (.iastore, 1) := by decide +kernel
theorem dX5_giveBack_144 : decode cX5_giveBack 144 = .ok (.aload_n 0, 1) := by decide +kernel
theorem dX5_giveBack_145 : decode cX5_giveBack 145 = .ok (.getfield 46, 3) := by decide +kernel
theorem dX5_giveBack_148 : decode cX5_giveBack 148 = .ok (.iload 6, 2) := by decide +kernel
theorem dX5_giveBack_150 : decode cX5_giveBack 150 = .ok (.iconst 0, 1) := by decide +kernel
theorem dX5_giveBack_151 : decode cX5_giveBack 151 = .ok (.iastore, 1) := by decide +kernel
theorem dX5_giveBack_152 : decode cX5_giveBack 152 = .ok (.aload_n 0, 1) := by decide +kernel
theorem dX5_giveBack_153 : decode cX5_giveBack 153 = .ok (.iload 6, 2) := by decide +kernel
theorem dX5_giveBack_155 : decode cX5_giveBack 155 = .ok (.invokevirtual 173, 3) := by decide +kernel
theorem dX5_giveBack_158 : decode cX5_giveBack 158 = .ok (.ireturn, 1) := by decide +kernel
set_option maxRecDepth 20000 in
theorem ggX5_found_X5_isCopy : GoodIn wsX5_found wsX5_isCopy := goodIn_r _ [9, 10, 11, 12, 8, 13, 22, 23, 24, 25, 26, 27, 28, 29, 30, 31, 32, 33, 34, 35, 36, 37, 38, 39, 40, 41, 42, 43, 44, 45, 46, 47, 48, 49, 50, 51, 52, 53, 54] (by decide +kernel) (by decide +kernel)
set_option maxRecDepth 20000 in
theorem gX5_found_X5_isCopy : GoodIn wsX5_found (wsV RX5 176 RX5 yX5_isCopy wsX5_isCopy) := goodIn_app (goodIn_of _ (by decide +kernel)) ggX5_found_X5_isCopy
set_option maxRecDepth 20000 in
theorem ggX5_found_X5_isKind : GoodIn wsX5_found wsX5_isKind := goodIn_r _ [16, 11, 12, 8, 13] (by decide +kernel) (by decide +kernel)
set_option maxRecDepth 20000 in
theorem gX5_found_X5_isKind : GoodIn wsX5_found (va_wsS RX5 170 yX5_isKind wsX5_isKind) := goodIn_app (goodIn_of _ (by decide +kernel)) ggX5_found_X5_isKind
set_option maxRecDepth 20000 in
theorem ggX5_found_X5_isIn : GoodIn wsX5_found wsX5_isIn := goodIn_r _ [13] (by decide +kernel) (by decide +kernel)
set_option maxRecDepth 20000 in
theorem gX5_found_X5_isIn : GoodIn wsX5_found (va_wsS RX5 86 yX5_isIn wsX5_isIn) := goodIn_app (goodIn_of _ (by decide +kernel)) ggX5_found_X5_isIn
set_option maxRecDepth 20000 in
theorem ggX5_found_X5_isFine : GoodIn wsX5_found wsX5_isFine := goodIn_r _ [20, 21, 22, 23, 24, 25, 26, 27, 28, 29, 30, 31, 32, 33, 34, 35, 36, 37, 38, 39, 40, 41, 42, 43, 44, 45, 46, 47, 48, 49, 50, 51, 52, 53, 54] (by decide +kernel) (by decide +kernel)
set_option maxRecDepth 20000 in
theorem gX5_found_X5_isFine : GoodIn wsX5_found (wsV RX5 99 RX5 yX5_isFine wsX5_isFine) := goodIn_app (goodIn_of _ (by decide +kernel)) ggX5_found_X5_isFine
theorem dX5_found_0 : decode cX5_found 0 = .ok (.aload_n 0, 1) := by decide +kernel
theorem dX5_found_1 : decode cX5_found 1 = .ok (.iload_n 1, 1) := by decide +kernel
theorem dX5_found_2 : decode cX5_found 2 = .ok (.invokevirtual 176, 3) := by decide +kernel
theorem dX5_found_5 : decode cX5_found 5 = .ok (.ifCond .eq 14, 3) := by decide +kernel
theorem dX5_found_8 : decode cX5_found 8 = .ok (.iload_n 2, 1) := by decide +kernel
theorem dX5_found_9 : decode cX5_found 9 = .ok (.invokestatic 170, 3) := by decide +kernel
theorem dX5_found_12 : decode cX5_found 12 = .ok (.ifCond .eq 7, 3) := by decide +kernel
theorem dX5_found_15 : decode cX5_found 15 = .ok (.iconst 1, 1) := by decide +kernel
theorem dX5_found_16 : decode cX5_found 16 = .ok (.goto 4, 3) := by decide +kernel
theorem dX5_found_19 : decode cX5_found 19 = .ok (.iconst 0, 1) := by decide +kernel
theorem dX5_found_20 : decode cX5_found 20 = .ok (.istore 4, 2) := by decide +kernel
theorem dX5_found_22 : decode cX5_found 22 = .ok (.iload 4, 2) := by decide +kernel
theorem dX5_found_24 : decode cX5_found 24 = .ok (.ifCond .eq 50, 3) := by decide +kernel
theorem dX5_found_27 : decode cX5_found 27 = .ok (.aload_n 0, 1) := by decide +kernel
theorem dX5_found_28 : decode cX5_found 28 = .ok (.getfield 46, 3) := by decide +kernel
theorem dX5_found_31 : decode cX5_found 31 = .ok (.iload_n 1, 1) := by decide +kernel
theorem dX5_found_32 : decode cX5_found 32 = .ok (.iaload, 1) := by decide +kernel
theorem dX5_found_33 : decode cX5_found 33 = .ok (.ifCond .ne 41, 3) := by decide +kernel
theorem dX5_found_36 : decode cX5_found 36 = .ok (.aload_n 0, 1) := by decide +kernel
theorem dX5_found_37 : decode cX5_found 37 = .ok (.getfield 49, 3) := by decide +kernel
theorem dX5_found_40 : decode cX5_found 40 = .ok (.iconst 4, 1) := by decide +kernel
theorem dX5_found_41 : decode cX5_found 41 = .ok (.iload_n 1, 1) := by decide +kernel
theorem dX5_found_42 : decode cX5_found 42 = .ok (.imul, 1) := by decide +kernel
theorem dX5_found_43 : decode cX5_found 43 = .ok (.iload_n 2, 1) := by decide +kernel
theorem dX5_found_44 : decode cX5_found 44 = .ok (.iadd, 1) := by decide +kernel
theorem dX5_found_45 : decode cX5_found 45 = .ok (.iaload, 1) := by decide +kernel
theorem dX5_found_46 : decode cX5_found 46 = .ok (.i2l, 1) := by decide +kernel
theorem dX5_found_47 : decode cX5_found 47 = .ok (.iload_n 3, 1) := by decide +kernel
theorem dX5_found_48 : decode cX5_found 48 = .ok (.i2l, 1) := by decide +kernel
theorem dX5_found_49 : decode cX5_found 49 = .ok (.ladd, 1) := by decide +kernel
theorem dX5_found_50 : decode cX5_found 50 = .ok (.aload_n 0, 1) := by decide +kernel
theorem dX5_found_51 : decode cX5_found 51 = .ok (.getfield 40, 3) := by decide +kernel
theorem dX5_found_54 : decode cX5_found 54 = .ok (.iconst 4, 1) := by decide +kernel
theorem dX5_found_55 : decode cX5_found 55 = .ok (.aload_n 0, 1) := by decide +kernel
theorem dX5_found_56 : decode cX5_found 56 = .ok (.getfield 43, 3) := by decide +kernel
theorem dX5_found_59 : decode cX5_found 59 = .ok (.iload_n 1, 1) := by decide +kernel
theorem dX5_found_60 : decode cX5_found 60 = .ok (.iaload, 1) := by decide +kernel
theorem dX5_found_61 : decode cX5_found 61 = .ok (.imul, 1) := by decide +kernel
theorem dX5_found_62 : decode cX5_found 62 = .ok (.iload_n 2, 1) := by decide +kernel
theorem dX5_found_63 : decode cX5_found 63 = .ok (.iadd, 1) := by decide +kernel
theorem dX5_found_64 : decode cX5_found 64 = .ok (.iaload, 1) := by decide +kernel
theorem dX5_found_65 : decode cX5_found 65 = .ok (.i2l, 1) := by decide +kernel
theorem dX5_found_66 : decode cX5_found 66 = .ok (.lcmp, 1) := by decide +kernel
theorem dX5_found_67 : decode cX5_found 67 = .ok (.ifCond .gt 7, 3) := by decide +kernel
theorem dX5_found_70 : decode cX5_found 70 = .ok (.iconst 1, 1) := by decide +kernel
theorem dX5_found_71 : decode cX5_found 71 = .ok (.goto 4, 3) := by decide +kernel
theorem dX5_found_74 : decode cX5_found 74 = .ok (.iconst 0, 1) := by decide +kernel
theorem dX5_found_75 : decode cX5_found 75 = .ok (.istore 5, 2) := by decide +kernel
theorem dX5_found_77 : decode cX5_found 77 = .ok (.aload_n 0, 1) := by decide +kernel
theorem dX5_found_78 : decode cX5_found 78 = .ok (.iload 4, 2) := by decide +kernel
theorem dX5_found_80 : decode cX5_found 80 = .ok (.ifCond .ne 7, 3) := by decide +kernel
theorem dX5_found_83 : decode cX5_found 83 = .ok (.iconst 1, 1) := by decide +kernel
theorem dX5_found_84 : decode cX5_found 84 = .ok (.goto 27, 3) := by decide +kernel
theorem dX5_found_87 : decode cX5_found 87 = .ok (.iload_n 3, 1) := by decide +kernel
theorem dX5_found_88 : decode cX5_found 88 = .ok (.iconst 1, 1) := by decide +kernel
theorem dX5_found_89 : decode cX5_found 89 = .ok (.bipush 9, 2) := by decide +kernel
theorem dX5_found_91 : decode cX5_found 91 = .ok (.invokestatic 86, 3) := by decide +kernel
theorem dX5_found_94 : decode cX5_found 94 = .ok (.ifCond .ne 7, 3) := by decide +kernel
theorem dX5_found_97 : decode cX5_found 97 = .ok (.iconst 2, 1) := by decide +kernel
theorem dX5_found_98 : decode cX5_found 98 = .ok (.goto 13, 3) := by decide +kernel
theorem dX5_found_101 : decode cX5_found 101 = .ok (.iload 5, 2) := by decide +kernel
theorem dX5_found_103 : decode cX5_found 103 = .ok (.ifCond .ne 7, 3) := by decide +kernel
theorem dX5_found_106 : decode cX5_found 106 = .ok (.iconst 3, 1) := by decide +kernel
theorem dX5_found_107 : decode cX5_found 107 = .ok (.goto 4, 3) := by decide +kernel
theorem dX5_found_110 : decode cX5_found 110 = .ok (.iconst 0, 1) := by decide +kernel
theorem dX5_found_111 : decode cX5_found 111 = .ok (.invokevirtual 99, 3) := by decide +kernel
theorem dX5_found_114 : decode cX5_found 114 = .ok (.ifCond .ne 5, 3) := by decide +kernel
theorem dX5_found_117 : decode cX5_found 117 = .ok (.iconst 0, 1) := by decide +kernel
theorem dX5_found_118 : decode cX5_found 118 = .ok (.ireturn, 1) := by decide +kernel
theorem dX5_found_119 : decode cX5_found 119 = .ok (.aload_n 0, 1) := by decide +kernel
theorem dX5_found_120 : decode cX5_found 120 = .ok (.getfield 49, 3) := by decide +kernel
theorem dX5_found_123 : decode cX5_found 123 = .ok (.iconst 4, 1) := by decide +kernel
theorem dX5_found_124 : decode cX5_found 124 = .ok (.iload_n 1, 1) := by decide +kernel
theorem dX5_found_125 : decode cX5_found 125 = .ok (.imul, 1) := by decide +kernel
theorem dX5_found_126 : decode cX5_found 126 = .ok (.iload_n 2, 1) := by decide +kernel
theorem dX5_found_127 : decode cX5_found 127 = .ok (.iadd, 1) := by decide +kernel
theorem dX5_found_128 : decode cX5_found 128 = .ok (.dup2, 1) := by decide +kernel
theorem dX5_found_129 : decode cX5_found 129 = .ok (.iaload, 1) := by decide +kernel
theorem dX5_found_130 : decode cX5_found 130 = .ok (.iload_n 3, 1) := by decide +kernel
theorem dX5_found_131 : decode cX5_found 131 = .ok (.iadd, 1) := by decide +kernel
theorem dX5_found_132 : decode cX5_found 132 = .ok (.iastore, 1) := by decide +kernel
theorem dX5_found_133 : decode cX5_found 133 = .ok (.aload_n 0, 1) := by decide +kernel
theorem dX5_found_134 : decode cX5_found 134 = .ok (.getfield 49, 3) := by decide +kernel
theorem dX5_found_137 : decode cX5_found 137 = .ok (.iconst 4, 1) := by decide +kernel
theorem dX5_found_138 : decode cX5_found 138 = .ok (.iload_n 1, 1) := by decide +kernel
theorem dX5_found_139 : decode cX5_found 139 = .ok (.imul, 1) := by decide +kernel
theorem dX5_found_140 : decode cX5_found 140 = .ok (.iload_n 2, 1) := by decide +kernel
theorem dX5_found_141 : decode cX5_found 141 = .ok (.iadd, 1) := by decide +kernel
theorem dX5_found_142 : decode cX5_found 142 = .ok (.iaload, 1) := by decide +kernel
theorem dX5_found_143 : decode cX5_found 143 = .ok (.ireturn, 1) := by decide +kernel
set_option maxRecDepth 20000 in
theorem ggX5_pieces_X5_isCopy : GoodIn wsX5_pieces wsX5_isCopy := goodIn_r _ [6, 7, 8, 9, 5, 10, 19, 20, 21, 22, 23, 24, 25, 26, 27, 28, 29, 30, 31, 32, 33, 34, 35, 36, 37, 38, 39, 40, 41, 42, 43, 44, 45, 46, 47, 48, 49, 50, 51] (by decide +kernel) (by decide +kernel)
set_option maxRecDepth 20000 in
theorem gX5_pieces_X5_isCopy : GoodIn wsX5_pieces (wsV RX5 176 RX5 yX5_isCopy wsX5_isCopy) := goodIn_app (goodIn_of _ (by decide +kernel)) ggX5_pieces_X5_isCopy
set_option maxRecDepth 20000 in
theorem ggX5_pieces_X5_isKind : GoodIn wsX5_pieces wsX5_isKind := goodIn_r _ [13, 8, 9, 5, 10] (by decide +kernel) (by decide +kernel)
set_option maxRecDepth 20000 in
theorem gX5_pieces_X5_isKind : GoodIn wsX5_pieces (va_wsS RX5 170 yX5_isKind wsX5_isKind) := goodIn_app (goodIn_of _ (by decide +kernel)) ggX5_pieces_X5_isKind
set_option maxRecDepth 20000 in
theorem ggX5_pieces_X5_isFine : GoodIn wsX5_pieces wsX5_isFine := goodIn_r _ [17, 18, 19, 20, 21, 22, 23, 24, 25, 26, 27, 28, 29, 30, 31, 32, 33, 34, 35, 36, 37, 38, 39, 40, 41, 42, 43, 44, 45, 46, 47, 48, 49, 50, 51] (by decide +kernel) (by decide +kernel)
set_option maxRecDepth 20000 in
theorem gX5_pieces_X5_isFine : GoodIn wsX5_pieces (wsV RX5 99 RX5 yX5_isFine wsX5_isFine) := goodIn_app (goodIn_of _ (by decide +kernel)) ggX5_pieces_X5_isFine
theorem dX5_pieces_0 : decode cX5_pieces 0 = .ok (.aload_n 0, 1) := by decide +kernel
theorem dX5_pieces_1 : decode cX5_pieces 1 = .ok (.aload_n 0, 1) := by decide +kernel
theorem dX5_pieces_2 : decode cX5_pieces 2 = .ok (.iload_n 1, 1) := by decide +kernel
theorem dX5_pieces_3 : decode cX5_pieces 3 = .ok (.invokevirtual 176, 3) := by decide +kernel
theorem dX5_pieces_6 : decode cX5_pieces 6 = .ok (.ifCond .eq 14, 3) := by decide +kernel
theorem dX5_pieces_9 : decode cX5_pieces 9 = .ok (.iload_n 2, 1) := by decide +kernel
theorem dX5_pieces_10 : decode cX5_pieces 10 = .ok (.invokestatic 170, 3) := by decide +kernel
theorem dX5_pieces_13 : decode cX5_pieces 13 = .ok (.ifCond .eq 7, 3) := by decide +kernel
theorem dX5_pieces_16 : decode cX5_pieces 16 = .ok (.iconst 0, 1) := by decide +kernel
theorem dX5_pieces_17 : decode cX5_pieces 17 = .ok (.goto 4, 3) := by decide +kernel
theorem dX5_pieces_20 : decode cX5_pieces 20 = .ok (.iconst 1, 1) := by decide +kernel
theorem dX5_pieces_21 : decode cX5_pieces 21 = .ok (.invokevirtual 99, 3) := by decide +kernel
theorem dX5_pieces_24 : decode cX5_pieces 24 = .ok (.ifCond .eq 16, 3) := by decide +kernel
theorem dX5_pieces_27 : decode cX5_pieces 27 = .ok (.aload_n 0, 1) := by decide +kernel
theorem dX5_pieces_28 : decode cX5_pieces 28 = .ok (.getfield 49, 3) := by decide +kernel
theorem dX5_pieces_31 : decode cX5_pieces 31 = .ok (.iconst 4, 1) := by decide +kernel
theorem dX5_pieces_32 : decode cX5_pieces 32 = .ok (.iload_n 1, 1) := by decide +kernel
theorem dX5_pieces_33 : decode cX5_pieces 33 = .ok (.imul, 1) := by decide +kernel
theorem dX5_pieces_34 : decode cX5_pieces 34 = .ok (.iload_n 2, 1) := by decide +kernel
theorem dX5_pieces_35 : decode cX5_pieces 35 = .ok (.iadd, 1) := by decide +kernel
theorem dX5_pieces_36 : decode cX5_pieces 36 = .ok (.iaload, 1) := by decide +kernel
theorem dX5_pieces_37 : decode cX5_pieces 37 = .ok (.goto 4, 3) := by decide +kernel
theorem dX5_pieces_40 : decode cX5_pieces 40 = .ok (.iconst 0, 1) := by decide +kernel
theorem dX5_pieces_41 : decode cX5_pieces 41 = .ok (.ireturn, 1) := by decide +kernel
set_option maxRecDepth 20000 in
theorem ggX5_stateOf_X5_isCopy : GoodIn wsX5_stateOf wsX5_isCopy := goodIn_r _ [6, 7, 8, 9, 5, 10, 16, 17, 18, 19, 20, 21, 22, 23, 24, 25, 26, 27, 28, 29, 30, 31, 32, 33, 34, 35, 36, 37, 38, 39, 40, 41, 42, 43, 44, 45, 46, 47, 48] (by decide +kernel) (by decide +kernel)
set_option maxRecDepth 20000 in
theorem gX5_stateOf_X5_isCopy : GoodIn wsX5_stateOf (wsV RX5 176 RX5 yX5_isCopy wsX5_isCopy) := goodIn_app (goodIn_of _ (by decide +kernel)) ggX5_stateOf_X5_isCopy
set_option maxRecDepth 20000 in
theorem ggX5_stateOf_X5_isFine : GoodIn wsX5_stateOf wsX5_isFine := goodIn_r _ [14, 15, 16, 17, 18, 19, 20, 21, 22, 23, 24, 25, 26, 27, 28, 29, 30, 31, 32, 33, 34, 35, 36, 37, 38, 39, 40, 41, 42, 43, 44, 45, 46, 47, 48] (by decide +kernel) (by decide +kernel)
set_option maxRecDepth 20000 in
theorem gX5_stateOf_X5_isFine : GoodIn wsX5_stateOf (wsV RX5 99 RX5 yX5_isFine wsX5_isFine) := goodIn_app (goodIn_of _ (by decide +kernel)) ggX5_stateOf_X5_isFine
theorem dX5_stateOf_0 : decode cX5_stateOf 0 = .ok (.aload_n 0, 1) := by decide +kernel
theorem dX5_stateOf_1 : decode cX5_stateOf 1 = .ok (.aload_n 0, 1) := by decide +kernel
theorem dX5_stateOf_2 : decode cX5_stateOf 2 = .ok (.iload_n 1, 1) := by decide +kernel
theorem dX5_stateOf_3 : decode cX5_stateOf 3 = .ok (.invokevirtual 176, 3) := by decide +kernel
theorem dX5_stateOf_6 : decode cX5_stateOf 6 = .ok (.ifCond .eq 7, 3) := by decide +kernel
theorem dX5_stateOf_9 : decode cX5_stateOf 9 = .ok (.iconst 0, 1) := by decide +kernel
theorem dX5_stateOf_10 : decode cX5_stateOf 10 = .ok (.goto 4, 3) := by decide +kernel
theorem dX5_stateOf_13 : decode cX5_stateOf 13 = .ok (.iconst 1, 1) := by decide +kernel
theorem dX5_stateOf_14 : decode cX5_stateOf 14 = .ok (.invokevirtual 99, 3) := by decide +kernel
theorem dX5_stateOf_17 : decode cX5_stateOf 17 = .ok (.ifCond .eq 12, 3) := by decide +kernel
theorem dX5_stateOf_20 : decode cX5_stateOf 20 = .ok (.aload_n 0, 1) := by decide +kernel
theorem dX5_stateOf_21 : decode cX5_stateOf 21 = .ok (.getfield 46, 3) := by decide +kernel
theorem dX5_stateOf_24 : decode cX5_stateOf 24 = .ok (.iload_n 1, 1) := by decide +kernel
theorem dX5_stateOf_25 : decode cX5_stateOf 25 = .ok (.iaload, 1) := by decide +kernel
theorem dX5_stateOf_26 : decode cX5_stateOf 26 = .ok (.goto 4, 3) := by decide +kernel
theorem dX5_stateOf_29 : decode cX5_stateOf 29 = .ok (.iconst 0, 1) := by decide +kernel
theorem dX5_stateOf_30 : decode cX5_stateOf 30 = .ok (.ireturn, 1) := by decide +kernel
set_option maxRecDepth 20000 in
theorem ggX5_lenders_X5_isCopy : GoodIn wsX5_lenders wsX5_isCopy := goodIn_r _ [5, 6, 7, 8, 4, 9, 30, 31, 32, 33, 34, 35, 36, 37, 38, 39, 40, 41, 42, 43, 44, 45, 46, 47, 48, 49, 50, 51, 52, 53, 54, 55, 56, 57, 58, 59, 60, 61, 62] (by decide +kernel) (by decide +kernel)
set_option maxRecDepth 20000 in
theorem gX5_lenders_X5_isCopy : GoodIn wsX5_lenders (wsV RX5 176 RX5 yX5_isCopy wsX5_isCopy) := goodIn_app (goodIn_of _ (by decide +kernel)) ggX5_lenders_X5_isCopy
set_option maxRecDepth 20000 in
theorem ggX5_lenders_X5_isFine : GoodIn wsX5_lenders wsX5_isFine := goodIn_r _ [13, 14, 30, 31, 32, 33, 34, 35, 36, 37, 38, 39, 40, 41, 42, 43, 44, 45, 46, 47, 48, 49, 50, 51, 52, 53, 54, 55, 56, 57, 58, 59, 60, 61, 62] (by decide +kernel) (by decide +kernel)
set_option maxRecDepth 20000 in
theorem gX5_lenders_X5_isFine : GoodIn wsX5_lenders (wsV RX5 99 RX5 yX5_isFine wsX5_isFine) := goodIn_app (goodIn_of _ (by decide +kernel)) ggX5_lenders_X5_isFine
set_option maxRecDepth 20000 in
theorem ggX5_lenders_X5_lendersOf : GoodIn wsX5_lenders wsX5_lendersOf := goodIn_r _ [18, 19, 20, 21, 22, 4, 23, 24, 25, 26, 6, 27, 28, 29, 30, 31, 32, 33, 34, 35, 36, 37, 38, 39, 40, 41, 42, 43, 44, 45, 46, 47, 48, 49, 50, 51, 52, 53, 54, 55, 56, 57, 58, 59, 60, 61, 62] (by decide +kernel) (by decide +kernel)
set_option maxRecDepth 20000 in
theorem gX5_lenders_X5_lendersOf : GoodIn wsX5_lenders (wsV RX5 143 RX5 yX5_lendersOf wsX5_lendersOf) := goodIn_app (goodIn_of _ (by decide +kernel)) ggX5_lenders_X5_lendersOf
theorem dX5_lenders_0 : decode cX5_lenders 0 = .ok (.aload_n 0, 1) := by decide +kernel
theorem dX5_lenders_1 : decode cX5_lenders 1 = .ok (.aload_n 0, 1) := by decide +kernel
theorem dX5_lenders_2 : decode cX5_lenders 2 = .ok (.iload_n 1, 1) := by decide +kernel
theorem dX5_lenders_3 : decode cX5_lenders 3 = .ok (.invokevirtual 176, 3) := by decide +kernel
theorem dX5_lenders_6 : decode cX5_lenders 6 = .ok (.ifCond .eq 7, 3) := by decide +kernel
theorem dX5_lenders_9 : decode cX5_lenders 9 = .ok (.iconst 0, 1) := by decide +kernel
theorem dX5_lenders_10 : decode cX5_lenders 10 = .ok (.goto 4, 3) := by decide +kernel
theorem dX5_lenders_13 : decode cX5_lenders 13 = .ok (.iconst 1, 1) := by decide +kernel
theorem dX5_lenders_14 : decode cX5_lenders 14 = .ok (.invokevirtual 99, 3) := by decide +kernel
theorem dX5_lenders_17 : decode cX5_lenders 17 = .ok (.ifCond .eq 11, 3) := by decide +kernel
theorem dX5_lenders_20 : decode cX5_lenders 20 = .ok (.aload_n 0, 1) := by decide +kernel
theorem dX5_lenders_21 : decode cX5_lenders 21 = .ok (.iload_n 1, 1) := by decide +kernel
theorem dX5_lenders_22 : decode cX5_lenders 22 = .ok (.invokevirtual 143, 3) := by decide +kernel
theorem dX5_lenders_25 : decode cX5_lenders 25 = .ok (.goto 4, 3) := by decide +kernel
theorem dX5_lenders_28 : decode cX5_lenders 28 = .ok (.iconst 0, 1) := by decide +kernel
theorem dX5_lenders_29 : decode cX5_lenders 29 = .ok (.ireturn, 1) := by decide +kernel
set_option maxRecDepth 20000 in
theorem ggX5_copyOf_X5_isGroup : GoodIn wsX5_copyOf wsX5_isGroup := goodIn_r _ [6, 7, 8, 9, 5, 10, 16, 17, 18, 19, 20, 21, 22, 23, 24, 25, 26, 27, 28, 29, 30, 31, 32, 33, 34, 35, 36, 37, 38, 39, 40, 41, 42, 43, 44, 45, 46, 47, 48] (by decide +kernel) (by decide +kernel)
set_option maxRecDepth 20000 in
theorem gX5_copyOf_X5_isGroup : GoodIn wsX5_copyOf (wsV RX5 127 RX5 yX5_isGroup wsX5_isGroup) := goodIn_app (goodIn_of _ (by decide +kernel)) ggX5_copyOf_X5_isGroup
set_option maxRecDepth 20000 in
theorem ggX5_copyOf_X5_isFine : GoodIn wsX5_copyOf wsX5_isFine := goodIn_r _ [14, 15, 16, 17, 18, 19, 20, 21, 22, 23, 24, 25, 26, 27, 28, 29, 30, 31, 32, 33, 34, 35, 36, 37, 38, 39, 40, 41, 42, 43, 44, 45, 46, 47, 48] (by decide +kernel) (by decide +kernel)
set_option maxRecDepth 20000 in
theorem gX5_copyOf_X5_isFine : GoodIn wsX5_copyOf (wsV RX5 99 RX5 yX5_isFine wsX5_isFine) := goodIn_app (goodIn_of _ (by decide +kernel)) ggX5_copyOf_X5_isFine
theorem dX5_copyOf_0 : decode cX5_copyOf 0 = .ok (.aload_n 0, 1) := by decide +kernel
theorem dX5_copyOf_1 : decode cX5_copyOf 1 = .ok (.aload_n 0, 1) := by decide +kernel
theorem dX5_copyOf_2 : decode cX5_copyOf 2 = .ok (.iload_n 1, 1) := by decide +kernel
theorem dX5_copyOf_3 : decode cX5_copyOf 3 = .ok (.invokevirtual 127, 3) := by decide +kernel
theorem dX5_copyOf_6 : decode cX5_copyOf 6 = .ok (.ifCond .eq 7, 3) := by decide +kernel
theorem dX5_copyOf_9 : decode cX5_copyOf 9 = .ok (.iconst 0, 1) := by decide +kernel
theorem dX5_copyOf_10 : decode cX5_copyOf 10 = .ok (.goto 4, 3) := by decide +kernel
theorem dX5_copyOf_13 : decode cX5_copyOf 13 = .ok (.iconst 1, 1) := by decide +kernel
theorem dX5_copyOf_14 : decode cX5_copyOf 14 = .ok (.invokevirtual 99, 3) := by decide +kernel
theorem dX5_copyOf_17 : decode cX5_copyOf 17 = .ok (.ifCond .eq 12, 3) := by decide +kernel
theorem dX5_copyOf_20 : decode cX5_copyOf 20 = .ok (.aload_n 0, 1) := by decide +kernel
theorem dX5_copyOf_21 : decode cX5_copyOf 21 = .ok (.getfield 28, 3) := by decide +kernel
theorem dX5_copyOf_24 : decode cX5_copyOf 24 = .ok (.iload_n 1, 1) := by decide +kernel
theorem dX5_copyOf_25 : decode cX5_copyOf 25 = .ok (.iaload, 1) := by decide +kernel
theorem dX5_copyOf_26 : decode cX5_copyOf 26 = .ok (.goto 4, 3) := by decide +kernel
theorem dX5_copyOf_29 : decode cX5_copyOf 29 = .ok (.iconst 0, 1) := by decide +kernel
theorem dX5_copyOf_30 : decode cX5_copyOf 30 = .ok (.ireturn, 1) := by decide +kernel
theorem dX5_lentTo_0 : decode cX5_lentTo 0 = .ok (.iconst 0, 1) := by decide +kernel
theorem dX5_lentTo_1 : decode cX5_lentTo 1 = .ok (.istore_n 2, 1) := by decide +kernel
theorem dX5_lentTo_2 : decode cX5_lentTo 2 = .ok (.iconst 0, 1) := by decide +kernel
theorem dX5_lentTo_3 : decode cX5_lentTo 3 = .ok (.istore_n 3, 1) := by decide +kernel
theorem dX5_lentTo_4 : decode cX5_lentTo 4 = .ok (.iload_n 3, 1) := by decide +kernel
theorem dX5_lentTo_5 : decode cX5_lentTo 5 = .ok (.aload_n 0, 1) := by decide +kernel
theorem dX5_lentTo_6 : decode cX5_lentTo 6 = .ok (.getfield 163, 3) := by decide +kernel
theorem dX5_lentTo_9 : decode cX5_lentTo 9 = .ok (.if_icmp .ge 32, 3) := by decide +kernel
theorem dX5_lentTo_12 : decode cX5_lentTo 12 = .ok (.iload_n 2, 1) := by decide +kernel
theorem dX5_lentTo_13 : decode cX5_lentTo 13 = .ok (.aload_n 0, 1) := by decide +kernel
theorem dX5_lentTo_14 : decode cX5_lentTo 14 = .ok (.getfield 52, 3) := by decide +kernel
theorem dX5_lentTo_17 : decode cX5_lentTo 17 = .ok (.iload_n 3, 1) := by decide +kernel
theorem dX5_lentTo_18 : decode cX5_lentTo 18 = .ok (.iaload, 1) := by decide +kernel
theorem dX5_lentTo_19 : decode cX5_lentTo 19 = .ok (.iload_n 1, 1) := by decide +kernel
theorem dX5_lentTo_20 : decode cX5_lentTo 20 = .ok (.if_icmp .ne 12, 3) := by decide +kernel
theorem dX5_lentTo_23 : decode cX5_lentTo 23 = .ok (.aload_n 0, 1) := by decide +kernel
theorem dX5_lentTo_24 : decode cX5_lentTo 24 = .ok (.getfield 61, 3) := by decide +kernel
theorem dX5_lentTo_27 : decode cX5_lentTo 27 = .ok (.iload_n 3, 1) := by decide +kernel
theorem dX5_lentTo_28 : decode cX5_lentTo 28 = .ok (.iaload, 1) := by decide +kernel
theorem dX5_lentTo_29 : decode cX5_lentTo 29 = .ok (.goto 4, 3) := by decide +kernel
theorem dX5_lentTo_32 : decode cX5_lentTo 32 = .ok (.iconst 0, 1) := by decide +kernel
theorem dX5_lentTo_33 : decode cX5_lentTo 33 = .ok (.iadd, 1) := by decide +kernel
theorem dX5_lentTo_34 : decode cX5_lentTo 34 = .ok (.istore_n 2, 1) := by decide +kernel
theorem dX5_lentTo_35 : decode cX5_lentTo 35 = .ok (.iinc 3 1, 3) := by decide +kernel
theorem dX5_lentTo_38 : decode cX5_lentTo 38 = .ok (.goto (-34), 3) := by decide +kernel
theorem dX5_lentTo_41 : decode cX5_lentTo 41 = .ok (.iload_n 2, 1) := by decide +kernel
theorem dX5_lentTo_42 : decode cX5_lentTo 42 = .ok (.ireturn, 1) := by decide +kernel
set_option maxRecDepth 20000 in
theorem ggX5_holds_X5_leftOf : GoodIn wsX5_holds wsX5_leftOf := goodIn_r _ [9, 10, 11, 12, 20, 21, 22, 23, 24, 25, 26, 27, 28, 29, 30, 31, 32, 33, 34, 35, 36, 37, 38, 39, 40, 41, 42, 43, 44, 45, 46, 47, 48, 49, 50, 51, 52] (by decide +kernel) (by decide +kernel)
set_option maxRecDepth 20000 in
theorem gX5_holds_X5_leftOf : GoodIn wsX5_holds (wsV RX5 134 RX5 yX5_leftOf wsX5_leftOf) := goodIn_app (goodIn_of _ (by decide +kernel)) ggX5_holds_X5_leftOf
set_option maxRecDepth 20000 in
theorem ggX5_holds_X5_lentTo : GoodIn wsX5_holds wsX5_lentTo := goodIn_r _ [16, 17, 18, 19, 20, 21, 22, 23, 24, 25, 26, 27, 28, 29, 30, 31, 32, 33, 34, 35, 36, 37, 38, 39, 40, 41, 42, 43, 44, 45, 46, 47, 48, 49, 50, 51, 52] (by decide +kernel) (by decide +kernel)
set_option maxRecDepth 20000 in
theorem gX5_holds_X5_lentTo : GoodIn wsX5_holds (wsV RX5 179 RX5 yX5_lentTo wsX5_lentTo) := goodIn_app (goodIn_of _ (by decide +kernel)) ggX5_holds_X5_lentTo
theorem dX5_holds_0 : decode cX5_holds 0 = .ok (.aload_n 0, 1) := by decide +kernel
theorem dX5_holds_1 : decode cX5_holds 1 = .ok (.getfield 70, 3) := by decide +kernel
theorem dX5_holds_4 : decode cX5_holds 4 = .ok (.iload_n 2, 1) := by decide +kernel
theorem dX5_holds_5 : decode cX5_holds 5 = .ok (.iaload, 1) := by decide +kernel
theorem dX5_holds_6 : decode cX5_holds 6 = .ok (.istore_n 3, 1) := by decide +kernel
theorem dX5_holds_7 : decode cX5_holds 7 = .ok (.aload_n 0, 1) := by decide +kernel
theorem dX5_holds_8 : decode cX5_holds 8 = .ok (.getfield 67, 3) := by decide +kernel
theorem dX5_holds_11 : decode cX5_holds 11 = .ok (.iload_n 2, 1) := by decide +kernel
theorem dX5_holds_12 : decode cX5_holds 12 = .ok (.iaload, 1) := by decide +kernel
theorem dX5_holds_13 : decode cX5_holds 13 = .ok (.tableswitch 75 0 2 #[27, 43, 58], 27) := by decide +kernel
theorem dX5_holds_40 : decode cX5_holds 40 = .ok (.aload_n 0, 1) := by decide +kernel
theorem dX5_holds_41 : decode cX5_holds 41 = .ok (.getfield 16, 3) := by decide +kernel
theorem dX5_holds_44 : decode cX5_holds 44 = .ok (.iload_n 1, 1) := by decide +kernel
theorem dX5_holds_45 : decode cX5_holds 45 = .ok (.iaload, 1) := by decide +kernel
theorem dX5_holds_46 : decode cX5_holds 46 = .ok (.iload_n 3, 1) := by decide +kernel
theorem dX5_holds_47 : decode cX5_holds 47 = .ok (.if_icmp .lt 7, 3) := by decide +kernel
theorem dX5_holds_50 : decode cX5_holds 50 = .ok (.iconst 1, 1) := by decide +kernel
theorem dX5_holds_51 : decode cX5_holds 51 = .ok (.goto 4, 3) := by decide +kernel
theorem dX5_holds_54 : decode cX5_holds 54 = .ok (.iconst 0, 1) := by decide +kernel
theorem dX5_holds_55 : decode cX5_holds 55 = .ok (.ireturn, 1) := by decide +kernel
theorem dX5_holds_56 : decode cX5_holds 56 = .ok (.aload_n 0, 1) := by decide +kernel
theorem dX5_holds_57 : decode cX5_holds 57 = .ok (.iload_n 1, 1) := by decide +kernel
theorem dX5_holds_58 : decode cX5_holds 58 = .ok (.invokevirtual 134, 3) := by decide +kernel
theorem dX5_holds_61 : decode cX5_holds 61 = .ok (.iload_n 3, 1) := by decide +kernel
theorem dX5_holds_62 : decode cX5_holds 62 = .ok (.if_icmp .ge 7, 3) := by decide +kernel
theorem dX5_holds_65 : decode cX5_holds 65 = .ok (.iconst 1, 1) := by decide +kernel
theorem dX5_holds_66 : decode cX5_holds 66 = .ok (.goto 4, 3) := by decide +kernel
theorem dX5_holds_69 : decode cX5_holds 69 = .ok (.iconst 0, 1) := by decide +kernel
theorem dX5_holds_70 : decode cX5_holds 70 = .ok (.ireturn, 1) := by decide +kernel
theorem dX5_holds_71 : decode cX5_holds 71 = .ok (.aload_n 0, 1) := by decide +kernel
theorem dX5_holds_72 : decode cX5_holds 72 = .ok (.getfield 16, 3) := by decide +kernel
theorem dX5_holds_75 : decode cX5_holds 75 = .ok (.iload_n 1, 1) := by decide +kernel
theorem dX5_holds_76 : decode cX5_holds 76 = .ok (.iaload, 1) := by decide +kernel
theorem dX5_holds_77 : decode cX5_holds 77 = .ok (.iload_n 3, 1) := by decide +kernel
theorem dX5_holds_78 : decode cX5_holds 78 = .ok (.irem, 1) := by decide +kernel
theorem dX5_holds_79 : decode cX5_holds 79 = .ok (.ifCond .ne 7, 3) := by decide +kernel
theorem dX5_holds_82 : decode cX5_holds 82 = .ok (.iconst 1, 1) := by decide +kernel
theorem dX5_holds_83 : decode cX5_holds 83 = .ok (.goto 4, 3) := by decide +kernel
theorem dX5_holds_86 : decode cX5_holds 86 = .ok (.iconst 0, 1) := by decide +kernel
theorem dX5_holds_87 : decode cX5_holds 87 = .ok (.ireturn, 1) := by decide +kernel
theorem dX5_holds_88 : decode cX5_holds 88 = .ok (.aload_n 0, 1) := by decide +kernel
theorem dX5_holds_89 : decode cX5_holds 89 = .ok (.aload_n 0, 1) := by decide +kernel
theorem dX5_holds_90 : decode cX5_holds 90 = .ok (.getfield 28, 3) := by decide +kernel
theorem dX5_holds_93 : decode cX5_holds 93 = .ok (.iload_n 1, 1) := by decide +kernel
theorem dX5_holds_94 : decode cX5_holds 94 = .ok (.iaload, 1) := by decide +kernel
theorem dX5_holds_95 : decode cX5_holds 95 = .ok (.invokevirtual 179, 3) := by decide +kernel
theorem dX5_holds_98 : decode cX5_holds 98 = .ok (.iload_n 3, 1) := by decide +kernel
theorem dX5_holds_99 : decode cX5_holds 99 = .ok (.if_icmp .lt 7, 3) := by decide +kernel
theorem dX5_holds_102 : decode cX5_holds 102 = .ok (.iconst 1, 1) := by decide +kernel
theorem dX5_holds_103 : decode cX5_holds 103 = .ok (.goto 4, 3) := by decide +kernel
theorem dX5_holds_106 : decode cX5_holds 106 = .ok (.iconst 0, 1) := by decide +kernel
theorem dX5_holds_107 : decode cX5_holds 107 = .ok (.ireturn, 1) := by decide +kernel
set_option maxRecDepth 20000 in
theorem ggX5_firstThat_X5_holds : GoodIn wsX5_firstThat wsX5_holds := goodIn_r _ [7, 8, 9, 10, 11, 12, 13, 14, 6, 15, 16, 17, 18, 19, 20, 21, 22, 23, 24, 25, 26, 27, 28, 29, 30, 31, 32, 33, 34, 35, 36, 37, 38, 39, 40, 41, 42, 43, 44, 45, 46, 47, 48, 49, 50, 51, 52, 53, 54, 55, 56, 57, 58] (by decide +kernel) (by decide +kernel)
set_option maxRecDepth 20000 in
theorem gX5_firstThat_X5_holds : GoodIn wsX5_firstThat (wsV RX5 182 RX5 yX5_holds wsX5_holds) := goodIn_app (goodIn_of _ (by decide +kernel)) ggX5_firstThat_X5_holds
theorem dX5_firstThat_0 : decode cX5_firstThat 0 = .ok (.iconst 0, 1) := by decide +kernel
theorem dX5_firstThat_1 : decode cX5_firstThat 1 = .ok (.istore 4, 2) := by decide +kernel
theorem dX5_firstThat_3 : decode cX5_firstThat 3 = .ok (.iload 4, 2) := by decide +kernel
theorem dX5_firstThat_5 : decode cX5_firstThat 5 = .ok (.aload_n 0, 1) := by decide +kernel
theorem dX5_firstThat_6 : decode cX5_firstThat 6 = .ok (.getfield 76, 3) := by decide +kernel
theorem dX5_firstThat_9 : decode cX5_firstThat 9 = .ok (.iload_n 2, 1) := by decide +kernel
theorem dX5_firstThat_10 : decode cX5_firstThat 10 = .ok (.iaload, 1) := by decide +kernel
theorem dX5_firstThat_11 : decode cX5_firstThat 11 = .ok (.if_icmp .ge 43, 3) := by decide +kernel
theorem dX5_firstThat_14 : decode cX5_firstThat 14 = .ok (.aload_n 0, 1) := by decide +kernel
theorem dX5_firstThat_15 : decode cX5_firstThat 15 = .ok (.getfield 64, 3) := by decide +kernel
theorem dX5_firstThat_18 : decode cX5_firstThat 18 = .ok (.bipush 12, 2) := by decide +kernel
theorem dX5_firstThat_20 : decode cX5_firstThat 20 = .ok (.iload_n 2, 1) := by decide +kernel
theorem dX5_firstThat_21 : decode cX5_firstThat 21 = .ok (.imul, 1) := by decide +kernel
theorem dX5_firstThat_22 : decode cX5_firstThat 22 = .ok (.iload 4, 2) := by decide +kernel
theorem dX5_firstThat_24 : decode cX5_firstThat 24 = .ok (.iadd, 1) := by decide +kernel
theorem dX5_firstThat_25 : decode cX5_firstThat 25 = .ok (.iaload, 1) := by decide +kernel
theorem dX5_firstThat_26 : decode cX5_firstThat 26 = .ok (.iload_n 3, 1) := by decide +kernel
theorem dX5_firstThat_27 : decode cX5_firstThat 27 = .ok (.if_icmp .ne 21, 3) := by decide +kernel
theorem dX5_firstThat_30 : decode cX5_firstThat 30 = .ok (.aload_n 0, 1) := by decide +kernel
theorem dX5_firstThat_31 : decode cX5_firstThat 31 = .ok (.iload_n 1, 1) := by decide +kernel
theorem dX5_firstThat_32 : decode cX5_firstThat 32 = .ok (.bipush 12, 2) := by decide +kernel
theorem dX5_firstThat_34 : decode cX5_firstThat 34 = .ok (.iload_n 2, 1) := by decide +kernel
theorem dX5_firstThat_35 : decode cX5_firstThat 35 = .ok (.imul, 1) := by decide +kernel
theorem dX5_firstThat_36 : decode cX5_firstThat 36 = .ok (.iload 4, 2) := by decide +kernel
theorem dX5_firstThat_38 : decode cX5_firstThat 38 = .ok (.iadd, 1) := by decide +kernel
theorem dX5_firstThat_39 : decode cX5_firstThat 39 = .ok (.invokevirtual 182, 3) := by decide +kernel
theorem dX5_firstThat_42 : decode cX5_firstThat 42 = .ok (.ifCond .eq 6, 3) := by decide +kernel
theorem dX5_firstThat_45 : decode cX5_firstThat 45 = .ok (.iload 4, 2) := by decide +kernel
theorem dX5_firstThat_47 : decode cX5_firstThat 47 = .ok (.ireturn, 1) := by decide +kernel
theorem dX5_firstThat_48 : decode cX5_firstThat 48 = .ok (.iinc 4 1, 3) := by decide +kernel
theorem dX5_firstThat_51 : decode cX5_firstThat 51 = .ok (.goto (-48), 3) := by decide +kernel
theorem dX5_firstThat_54 : decode cX5_firstThat 54 = .ok (.iconst (-1), 1) := by decide +kernel
theorem dX5_firstThat_55 : decode cX5_firstThat 55 = .ok (.ireturn, 1) := by decide +kernel
set_option maxRecDepth 20000 in
theorem ggX5_rulingFor_X5_firstThat : GoodIn wsX5_rulingFor wsX5_firstThat := goodIn_r _ [8, 9, 10, 11, 12, 13, 7, 14, 15, 16, 17, 2, 18, 19, 20, 21, 22, 23, 24, 25, 26, 27, 28, 29, 30, 31, 32, 33, 34, 35, 36, 37, 38, 39, 40, 41, 42, 43, 44, 45, 46, 47, 48, 49, 50, 51, 52, 53, 54, 55, 56, 57, 58, 59, 60, 61, 62, 63, 64] (by decide +kernel) (by decide +kernel)
set_option maxRecDepth 20000 in
theorem gX5_rulingFor_X5_firstThat : GoodIn wsX5_rulingFor (wsV RX5 185 RX5 yX5_firstThat wsX5_firstThat) := goodIn_app (goodIn_of _ (by decide +kernel)) ggX5_rulingFor_X5_firstThat
theorem dX5_rulingFor_0 : decode cX5_rulingFor 0 = .ok (.aload_n 0, 1) := by decide +kernel
theorem dX5_rulingFor_1 : decode cX5_rulingFor 1 = .ok (.getfield 43, 3) := by decide +kernel
theorem dX5_rulingFor_4 : decode cX5_rulingFor 4 = .ok (.aload_n 0, 1) := by decide +kernel
theorem dX5_rulingFor_5 : decode cX5_rulingFor 5 = .ok (.getfield 28, 3) := by decide +kernel
theorem dX5_rulingFor_8 : decode cX5_rulingFor 8 = .ok (.iload_n 1, 1) := by decide +kernel
theorem dX5_rulingFor_9 : decode cX5_rulingFor 9 = .ok (.iaload, 1) := by decide +kernel
theorem dX5_rulingFor_10 : decode cX5_rulingFor 10 = .ok (.iaload, 1) := by decide +kernel
theorem dX5_rulingFor_11 : decode cX5_rulingFor 11 = .ok (.istore_n 2, 1) := by decide +kernel
theorem dX5_rulingFor_12 : decode cX5_rulingFor 12 = .ok (.iconst (-1), 1) := by decide +kernel
theorem dX5_rulingFor_13 : decode cX5_rulingFor 13 = .ok (.istore_n 3, 1) := by decide +kernel
theorem dX5_rulingFor_14 : decode cX5_rulingFor 14 = .ok (.aload_n 0, 1) := by decide +kernel
theorem dX5_rulingFor_15 : decode cX5_rulingFor 15 = .ok (.iload_n 1, 1) := by decide +kernel
theorem dX5_rulingFor_16 : decode cX5_rulingFor 16 = .ok (.iload_n 2, 1) := by decide +kernel
theorem dX5_rulingFor_17 : decode cX5_rulingFor 17 = .ok (.iconst (-1), 1) := by decide +kernel
theorem dX5_rulingFor_18 : decode cX5_rulingFor 18 = .ok (.invokevirtual 185, 3) := by decide +kernel
theorem dX5_rulingFor_21 : decode cX5_rulingFor 21 = .ok (.istore 4, 2) := by decide +kernel
theorem dX5_rulingFor_23 : decode cX5_rulingFor 23 = .ok (.iload 4, 2) := by decide +kernel
theorem dX5_rulingFor_25 : decode cX5_rulingFor 25 = .ok (.iconst (-1), 1) := by decide +kernel
theorem dX5_rulingFor_26 : decode cX5_rulingFor 26 = .ok (.if_icmp .eq 18, 3) := by decide +kernel
theorem dX5_rulingFor_29 : decode cX5_rulingFor 29 = .ok (.iload 4, 2) := by decide +kernel
theorem dX5_rulingFor_31 : decode cX5_rulingFor 31 = .ok (.istore_n 3, 1) := by decide +kernel
theorem dX5_rulingFor_32 : decode cX5_rulingFor 32 = .ok (.aload_n 0, 1) := by decide +kernel
theorem dX5_rulingFor_33 : decode cX5_rulingFor 33 = .ok (.iload_n 1, 1) := by decide +kernel
theorem dX5_rulingFor_34 : decode cX5_rulingFor 34 = .ok (.iload_n 2, 1) := by decide +kernel
theorem dX5_rulingFor_35 : decode cX5_rulingFor 35 = .ok (.iload_n 3, 1) := by decide +kernel
theorem dX5_rulingFor_36 : decode cX5_rulingFor 36 = .ok (.invokevirtual 185, 3) := by decide +kernel
theorem dX5_rulingFor_39 : decode cX5_rulingFor 39 = .ok (.istore 4, 2) := by decide +kernel
theorem dX5_rulingFor_41 : decode cX5_rulingFor 41 = .ok (.goto (-18), 3) := by decide +kernel
theorem dX5_rulingFor_44 : decode cX5_rulingFor 44 = .ok (.iload_n 3, 1) := by decide +kernel
theorem dX5_rulingFor_45 : decode cX5_rulingFor 45 = .ok (.iconst (-1), 1) := by decide +kernel
theorem dX5_rulingFor_46 : decode cX5_rulingFor 46 = .ok (.if_icmp .ne 7, 3) := by decide +kernel
theorem dX5_rulingFor_49 : decode cX5_rulingFor 49 = .ok (.iconst (-1), 1) := by decide +kernel
theorem dX5_rulingFor_50 : decode cX5_rulingFor 50 = .ok (.goto 14, 3) := by decide +kernel
theorem dX5_rulingFor_53 : decode cX5_rulingFor 53 = .ok (.aload_n 0, 1) := by decide +kernel
theorem dX5_rulingFor_54 : decode cX5_rulingFor 54 = .ok (.getfield 73, 3) := by decide +kernel
theorem dX5_rulingFor_57 : decode cX5_rulingFor 57 = .ok (.bipush 12, 2) := by decide +kernel
theorem dX5_rulingFor_59 : decode cX5_rulingFor 59 = .ok (.iload_n 2, 1) := by decide +kernel
theorem dX5_rulingFor_60 : decode cX5_rulingFor 60 = .ok (.imul, 1) := by decide +kernel
theorem dX5_rulingFor_61 : decode cX5_rulingFor 61 = .ok (.iload_n 3, 1) := by decide +kernel
theorem dX5_rulingFor_62 : decode cX5_rulingFor 62 = .ok (.iadd, 1) := by decide +kernel
theorem dX5_rulingFor_63 : decode cX5_rulingFor 63 = .ok (.iaload, 1) := by decide +kernel
theorem dX5_rulingFor_64 : decode cX5_rulingFor 64 = .ok (.ireturn, 1) := by decide +kernel
set_option maxRecDepth 20000 in
theorem ggX5_asks_X5_isGroup : GoodIn wsX5_asks wsX5_isGroup := goodIn_r _ [6, 7, 8, 9, 5, 10, 16, 17, 18, 19, 20, 21, 22, 23, 24, 25, 26, 27, 28, 29, 30, 31, 32, 33, 34, 35, 36, 37, 38, 39, 40, 41, 42, 43, 44, 45, 46, 47, 48] (by decide +kernel) (by decide +kernel)
set_option maxRecDepth 20000 in
theorem gX5_asks_X5_isGroup : GoodIn wsX5_asks (wsV RX5 127 RX5 yX5_isGroup wsX5_isGroup) := goodIn_app (goodIn_of _ (by decide +kernel)) ggX5_asks_X5_isGroup
set_option maxRecDepth 20000 in
theorem ggX5_asks_X5_isFine : GoodIn wsX5_asks wsX5_isFine := goodIn_r _ [14, 15, 16, 17, 18, 19, 20, 21, 22, 23, 24, 25, 26, 27, 28, 29, 30, 31, 32, 33, 34, 35, 36, 37, 38, 39, 40, 41, 42, 43, 44, 45, 46, 47, 48] (by decide +kernel) (by decide +kernel)
set_option maxRecDepth 20000 in
theorem gX5_asks_X5_isFine : GoodIn wsX5_asks (wsV RX5 99 RX5 yX5_isFine wsX5_isFine) := goodIn_app (goodIn_of _ (by decide +kernel)) ggX5_asks_X5_isFine
theorem dX5_asks_0 : decode cX5_asks 0 = .ok (.aload_n 0, 1) := by decide +kernel
theorem dX5_asks_1 : decode cX5_asks 1 = .ok (.iload_n 1, 1) := by decide +kernel
theorem dX5_asks_2 : decode cX5_asks 2 = .ok (.invokevirtual 127, 3) := by decide +kernel
theorem dX5_asks_5 : decode cX5_asks 5 = .ok (.istore_n 2, 1) := by decide +kernel
theorem dX5_asks_6 : decode cX5_asks 6 = .ok (.aload_n 0, 1) := by decide +kernel
theorem dX5_asks_7 : decode cX5_asks 7 = .ok (.iload_n 2, 1) := by decide +kernel
theorem dX5_asks_8 : decode cX5_asks 8 = .ok (.ifCond .ne 7, 3) := by decide +kernel
theorem dX5_asks_11 : decode cX5_asks 11 = .ok (.iconst 1, 1) := by decide +kernel
theorem dX5_asks_12 : decode cX5_asks 12 = .ok (.goto 18, 3) := by decide +kernel
theorem dX5_asks_15 : decode cX5_asks 15 = .ok (.aload_n 0, 1) := by decide +kernel
theorem dX5_asks_16 : decode cX5_asks 16 = .ok (.getfield 28, 3) := by decide +kernel
theorem dX5_asks_19 : decode cX5_asks 19 = .ok (.iload_n 1, 1) := by decide +kernel
theorem dX5_asks_20 : decode cX5_asks 20 = .ok (.iaload, 1) := by decide +kernel
theorem dX5_asks_21 : decode cX5_asks 21 = .ok (.iconst (-1), 1) := by decide +kernel
theorem dX5_asks_22 : decode cX5_asks 22 = .ok (.if_icmp .ne 7, 3) := by decide +kernel
theorem dX5_asks_25 : decode cX5_asks 25 = .ok (.iconst 2, 1) := by decide +kernel
theorem dX5_asks_26 : decode cX5_asks 26 = .ok (.goto 4, 3) := by decide +kernel
theorem dX5_asks_29 : decode cX5_asks 29 = .ok (.iconst 0, 1) := by decide +kernel
theorem dX5_asks_30 : decode cX5_asks 30 = .ok (.invokevirtual 99, 3) := by decide +kernel
theorem dX5_asks_33 : decode cX5_asks 33 = .ok (.ireturn, 1) := by decide +kernel
set_option maxRecDepth 20000 in
theorem ggX5_ruling_X5_asks : GoodIn wsX5_ruling wsX5_asks := goodIn_r _ [5, 6, 7, 8, 9, 4, 10, 11, 12, 13, 14, 15, 16, 17, 18, 19, 53, 54, 55, 56, 57, 58, 59, 60, 61, 62, 63, 64, 65, 66, 67, 68, 69, 70, 71, 72, 73, 74, 75, 76, 77, 78, 79, 80, 81, 82, 83, 84, 85] (by decide +kernel) (by decide +kernel)
set_option maxRecDepth 20000 in
theorem gX5_ruling_X5_asks : GoodIn wsX5_ruling (wsV RX5 189 RX5 yX5_asks wsX5_asks) := goodIn_app (goodIn_of _ (by decide +kernel)) ggX5_ruling_X5_asks
set_option maxRecDepth 20000 in
theorem ggX5_ruling_X5_rulingFor : GoodIn wsX5_ruling wsX5_rulingFor := goodIn_r _ [23, 24, 6, 25, 26, 27, 28, 4, 29, 30, 31, 32, 33, 34, 35, 36, 37, 38, 39, 40, 41, 42, 43, 44, 45, 46, 47, 48, 49, 50, 51, 52, 53, 54, 55, 56, 57, 58, 59, 60, 61, 62, 63, 64, 65, 66, 67, 68, 69, 70, 71, 72, 73, 74, 75, 76, 77, 78, 79, 80, 81, 82, 83, 84, 85] (by decide +kernel) (by decide +kernel)
set_option maxRecDepth 20000 in
theorem gX5_ruling_X5_rulingFor : GoodIn wsX5_ruling (wsV RX5 192 RX5 yX5_rulingFor wsX5_rulingFor) := goodIn_app (goodIn_of _ (by decide +kernel)) ggX5_ruling_X5_rulingFor
theorem dX5_ruling_0 : decode cX5_ruling 0 = .ok (.aload_n 0, 1) := by decide +kernel
theorem dX5_ruling_1 : decode cX5_ruling 1 = .ok (.iload_n 1, 1) := by decide +kernel
theorem dX5_ruling_2 : decode cX5_ruling 2 = .ok (.invokevirtual 189, 3) := by decide +kernel
theorem dX5_ruling_5 : decode cX5_ruling 5 = .ok (.ifCond .eq 11, 3) := by decide +kernel
theorem dX5_ruling_8 : decode cX5_ruling 8 = .ok (.aload_n 0, 1) := by decide +kernel
theorem dX5_ruling_9 : decode cX5_ruling 9 = .ok (.iload_n 1, 1) := by decide +kernel
theorem dX5_ruling_10 : decode cX5_ruling 10 = .ok (.invokevirtual 192, 3) := by decide +kernel
theorem dX5_ruling_13 : decode cX5_ruling 13 = .ok (.goto 4, 3) := by decide +kernel
theorem dX5_ruling_16 : decode cX5_ruling 16 = .ok (.iconst 0, 1) := by decide +kernel
theorem dX5_ruling_17 : decode cX5_ruling 17 = .ok (.ireturn, 1) := by decide +kernel
set_option maxRecDepth 20000 in
theorem ggX5_rulingFromBelow_X5_asks : GoodIn wsX5_rulingFromBelow wsX5_asks := goodIn_r _ [5, 6, 7, 8, 9, 4, 10, 11, 12, 13, 14, 15, 16, 17, 18, 19, 53, 54, 55, 56, 57, 58, 59, 60, 61, 62, 63, 64, 65, 66, 67, 68, 69, 70, 71, 72, 73, 74, 75, 76, 77, 78, 79, 80, 81, 82, 83, 84, 85] (by decide +kernel) (by decide +kernel)
set_option maxRecDepth 20000 in
theorem gX5_rulingFromBelow_X5_asks : GoodIn wsX5_rulingFromBelow (wsV RX5 189 RX5 yX5_asks wsX5_asks) := goodIn_app (goodIn_of _ (by decide +kernel)) ggX5_rulingFromBelow_X5_asks
set_option maxRecDepth 20000 in
theorem ggX5_rulingFromBelow_X5_rulingFor : GoodIn wsX5_rulingFromBelow wsX5_rulingFor := goodIn_r _ [23, 24, 6, 25, 26, 27, 28, 4, 29, 30, 31, 32, 33, 34, 35, 36, 37, 38, 39, 40, 41, 42, 43, 44, 45, 46, 47, 48, 49, 50, 51, 52, 53, 54, 55, 56, 57, 58, 59, 60, 61, 62, 63, 64, 65, 66, 67, 68, 69, 70, 71, 72, 73, 74, 75, 76, 77, 78, 79, 80, 81, 82, 83, 84, 85] (by decide +kernel) (by decide +kernel)
set_option maxRecDepth 20000 in
theorem gX5_rulingFromBelow_X5_rulingFor : GoodIn wsX5_rulingFromBelow (wsV RX5 192 RX5 yX5_rulingFor wsX5_rulingFor) := goodIn_app (goodIn_of _ (by decide +kernel)) ggX5_rulingFromBelow_X5_rulingFor
theorem dX5_rulingFromBelow_0 : decode cX5_rulingFromBelow 0 = .ok (.aload_n 0, 1) := by decide +kernel
theorem dX5_rulingFromBelow_1 : decode cX5_rulingFromBelow 1 = .ok (.iload_n 1, 1) := by decide +kernel
theorem dX5_rulingFromBelow_2 : decode cX5_rulingFromBelow 2 = .ok (.invokevirtual 189, 3) := by decide +kernel
theorem dX5_rulingFromBelow_5 : decode cX5_rulingFromBelow 5 = .ok (.ifCond .eq 11, 3) := by decide +kernel
theorem dX5_rulingFromBelow_8 : decode cX5_rulingFromBelow 8 = .ok (.aload_n 0, 1) := by decide +kernel
theorem dX5_rulingFromBelow_9 : decode cX5_rulingFromBelow 9 = .ok (.iload_n 1, 1) := by decide +kernel
theorem dX5_rulingFromBelow_10 : decode cX5_rulingFromBelow 10 = .ok (.invokevirtual 192, 3) := by decide +kernel
theorem dX5_rulingFromBelow_13 : decode cX5_rulingFromBelow 13 = .ok (.goto 4, 3) := by decide +kernel
theorem dX5_rulingFromBelow_16 : decode cX5_rulingFromBelow 16 = .ok (.iconst 0, 1) := by decide +kernel
theorem dX5_rulingFromBelow_17 : decode cX5_rulingFromBelow 17 = .ok (.ireturn, 1) := by decide +kernel
set_option maxRecDepth 20000 in
theorem ggX5_depth_X5_isTitle : GoodIn wsX5_depth wsX5_isTitle := goodIn_r _ [7, 8, 9, 10, 6, 11, 17, 18, 19, 20, 21, 22, 23, 24, 25, 26, 27, 28, 29, 30, 31, 32, 33, 34, 35, 36, 37, 38, 39, 40, 41, 42, 43, 44, 45, 46, 47, 48, 49] (by decide +kernel) (by decide +kernel)
set_option maxRecDepth 20000 in
theorem gX5_depth_X5_isTitle : GoodIn wsX5_depth (wsV RX5 109 RX5 yX5_isTitle wsX5_isTitle) := goodIn_app (goodIn_of _ (by decide +kernel)) ggX5_depth_X5_isTitle
set_option maxRecDepth 20000 in
theorem ggX5_depth_X5_isFine : GoodIn wsX5_depth wsX5_isFine := goodIn_r _ [15, 16, 17, 18, 19, 20, 21, 22, 23, 24, 25, 26, 27, 28, 29, 30, 31, 32, 33, 34, 35, 36, 37, 38, 39, 40, 41, 42, 43, 44, 45, 46, 47, 48, 49] (by decide +kernel) (by decide +kernel)
set_option maxRecDepth 20000 in
theorem gX5_depth_X5_isFine : GoodIn wsX5_depth (wsV RX5 99 RX5 yX5_isFine wsX5_isFine) := goodIn_app (goodIn_of _ (by decide +kernel)) ggX5_depth_X5_isFine
theorem dX5_depth_0 : decode cX5_depth 0 = .ok (.aload_n 0, 1) := by decide +kernel
theorem dX5_depth_1 : decode cX5_depth 1 = .ok (.aload_n 0, 1) := by decide +kernel
theorem dX5_depth_2 : decode cX5_depth 2 = .ok (.iload_n 1, 1) := by decide +kernel
theorem dX5_depth_3 : decode cX5_depth 3 = .ok (.invokevirtual 109, 3) := by decide +kernel
theorem dX5_depth_6 : decode cX5_depth 6 = .ok (.ifCond .eq 7, 3) := by decide +kernel
theorem dX5_depth_9 : decode cX5_depth 9 = .ok (.iconst 0, 1) := by decide +kernel
theorem dX5_depth_10 : decode cX5_depth 10 = .ok (.goto 4, 3) := by decide +kernel
theorem dX5_depth_13 : decode cX5_depth 13 = .ok (.iconst 1, 1) := by decide +kernel
theorem dX5_depth_14 : decode cX5_depth 14 = .ok (.invokevirtual 99, 3) := by decide +kernel
theorem dX5_depth_17 : decode cX5_depth 17 = .ok (.ifCond .ne 5, 3) := by decide +kernel
theorem dX5_depth_20 : decode cX5_depth 20 = .ok (.iconst 0, 1) := by decide +kernel
theorem dX5_depth_21 : decode cX5_depth 21 = .ok (.ireturn, 1) := by decide +kernel
theorem dX5_depth_22 : decode cX5_depth 22 = .ok (.iconst 0, 1) := by decide +kernel
theorem dX5_depth_23 : decode cX5_depth 23 = .ok (.istore_n 2, 1) := by decide +kernel
theorem dX5_depth_24 : decode cX5_depth 24 = .ok (.iconst 0, 1) := by decide +kernel
theorem dX5_depth_25 : decode cX5_depth 25 = .ok (.istore_n 3, 1) := by decide +kernel
theorem dX5_depth_26 : decode cX5_depth 26 = .ok (.iload_n 3, 1) := by decide +kernel
theorem dX5_depth_27 : decode cX5_depth 27 = .ok (.aload_n 0, 1) := by decide +kernel
theorem dX5_depth_28 : decode cX5_depth 28 = .ok (.getfield 76, 3) := by decide +kernel
theorem dX5_depth_31 : decode cX5_depth 31 = .ok (.iload_n 1, 1) := by decide +kernel
theorem dX5_depth_32 : decode cX5_depth 32 = .ok (.iaload, 1) := by decide +kernel
theorem dX5_depth_33 : decode cX5_depth 33 = .ok (.if_icmp .ge 54, 3) := by decide +kernel
theorem dX5_depth_36 : decode cX5_depth 36 = .ok (.iconst 0, 1) := by decide +kernel
theorem dX5_depth_37 : decode cX5_depth 37 = .ok (.istore 4, 2) := by decide +kernel
theorem dX5_depth_39 : decode cX5_depth 39 = .ok (.iload_n 3, 1) := by decide +kernel
theorem dX5_depth_40 : decode cX5_depth 40 = .ok (.istore 5, 2) := by decide +kernel
theorem dX5_depth_42 : decode cX5_depth 42 = .ok (.iload 5, 2) := by decide +kernel
theorem dX5_depth_44 : decode cX5_depth 44 = .ok (.iconst (-1), 1) := by decide +kernel
theorem dX5_depth_45 : decode cX5_depth 45 = .ok (.if_icmp .eq 23, 3) := by decide +kernel
theorem dX5_depth_48 : decode cX5_depth 48 = .ok (.iinc 4 1, 3) := by decide +kernel
theorem dX5_depth_51 : decode cX5_depth 51 = .ok (.aload_n 0, 1) := by decide +kernel
theorem dX5_depth_52 : decode cX5_depth 52 = .ok (.getfield 64, 3) := by decide +kernel
theorem dX5_depth_55 : decode cX5_depth 55 = .ok (.bipush 12, 2) := by decide +kernel
theorem dX5_depth_57 : decode cX5_depth 57 = .ok (.iload_n 1, 1) := by decide +kernel
theorem dX5_depth_58 : decode cX5_depth 58 = .ok (.imul, 1) := by decide +kernel
theorem dX5_depth_59 : decode cX5_depth 59 = .ok (.iload 5, 2) := by decide +kernel
theorem dX5_depth_61 : decode cX5_depth 61 = .ok (.iadd, 1) := by decide +kernel
theorem dX5_depth_62 : decode cX5_depth 62 = .ok (.iaload, 1) := by decide +kernel
theorem dX5_depth_63 : decode cX5_depth 63 = .ok (.istore 5, 2) := by decide +kernel
theorem dX5_depth_65 : decode cX5_depth 65 = .ok (.goto (-23), 3) := by decide +kernel
theorem dX5_depth_68 : decode cX5_depth 68 = .ok (.iload 4, 2) := by decide +kernel
theorem dX5_depth_70 : decode cX5_depth 70 = .ok (.iload_n 2, 1) := by decide +kernel
theorem dX5_depth_71 : decode cX5_depth 71 = .ok (.if_icmp .le 8, 3) := by decide +kernel
theorem dX5_depth_74 : decode cX5_depth 74 = .ok (.iload 4, 2) := by decide +kernel
theorem dX5_depth_76 : decode cX5_depth 76 = .ok (.goto 4, 3) := by decide +kernel
theorem dX5_depth_79 : decode cX5_depth 79 = .ok (.iload_n 2, 1) := by decide +kernel
theorem dX5_depth_80 : decode cX5_depth 80 = .ok (.istore_n 2, 1) := by decide +kernel
theorem dX5_depth_81 : decode cX5_depth 81 = .ok (.iinc 3 1, 3) := by decide +kernel
theorem dX5_depth_84 : decode cX5_depth 84 = .ok (.goto (-58), 3) := by decide +kernel
theorem dX5_depth_87 : decode cX5_depth 87 = .ok (.iload_n 2, 1) := by decide +kernel
theorem dX5_depth_88 : decode cX5_depth 88 = .ok (.ireturn, 1) := by decide +kernel
theorem dJ6_bitCount_0f7a4_0 : decode cJ6_bitCount_0f7a4 0 = .ok (.iload_n 0, 1) := by decide +kernel
theorem dJ6_bitCount_0f7a4_1 : decode cJ6_bitCount_0f7a4 1 = .ok (.iload_n 0, 1) := by decide +kernel
theorem dJ6_bitCount_0f7a4_2 : decode cJ6_bitCount_0f7a4 2 = .ok (.iconst 1, 1) := by decide +kernel
theorem dJ6_bitCount_0f7a4_3 : decode cJ6_bitCount_0f7a4 3 = .ok (.iushr, 1) := by decide +kernel
theorem dJ6_bitCount_0f7a4_4 : decode cJ6_bitCount_0f7a4 4 = .ok (.ldc_w 265, 3) := by decide +kernel
theorem dJ6_bitCount_0f7a4_7 : decode cJ6_bitCount_0f7a4 7 = .ok (.iand, 1) := by decide +kernel
theorem dJ6_bitCount_0f7a4_8 : decode cJ6_bitCount_0f7a4 8 = .ok (.isub, 1) := by decide +kernel
theorem dJ6_bitCount_0f7a4_9 : decode cJ6_bitCount_0f7a4 9 = .ok (.istore_n 0, 1) := by decide +kernel
theorem dJ6_bitCount_0f7a4_10 : decode cJ6_bitCount_0f7a4 10 = .ok (.iload_n 0, 1) := by decide +kernel
theorem dJ6_bitCount_0f7a4_11 : decode cJ6_bitCount_0f7a4 11 = .ok (.ldc_w 266, 3) := by decide +kernel
theorem dJ6_bitCount_0f7a4_14 : decode cJ6_bitCount_0f7a4 14 = .ok (.iand, 1) := by decide +kernel
theorem dJ6_bitCount_0f7a4_15 : decode cJ6_bitCount_0f7a4 15 = .ok (.iload_n 0, 1) := by decide +kernel
theorem dJ6_bitCount_0f7a4_16 : decode cJ6_bitCount_0f7a4 16 = .ok (.iconst 2, 1) := by decide +kernel
theorem dJ6_bitCount_0f7a4_17 : decode cJ6_bitCount_0f7a4 17 = .ok (.iushr, 1) := by decide +kernel
theorem dJ6_bitCount_0f7a4_18 : decode cJ6_bitCount_0f7a4 18 = .ok (.ldc_w 266, 3) := by decide +kernel
theorem dJ6_bitCount_0f7a4_21 : decode cJ6_bitCount_0f7a4 21 = .ok (.iand, 1) := by decide +kernel
theorem dJ6_bitCount_0f7a4_22 : decode cJ6_bitCount_0f7a4 22 = .ok (.iadd, 1) := by decide +kernel
theorem dJ6_bitCount_0f7a4_23 : decode cJ6_bitCount_0f7a4 23 = .ok (.istore_n 0, 1) := by decide +kernel
theorem dJ6_bitCount_0f7a4_24 : decode cJ6_bitCount_0f7a4 24 = .ok (.iload_n 0, 1) := by decide +kernel
theorem dJ6_bitCount_0f7a4_25 : decode cJ6_bitCount_0f7a4 25 = .ok (.iload_n 0, 1) := by decide +kernel
theorem dJ6_bitCount_0f7a4_26 : decode cJ6_bitCount_0f7a4 26 = .ok (.iconst 4, 1) := by decide +kernel
theorem dJ6_bitCount_0f7a4_27 : decode cJ6_bitCount_0f7a4 27 = .ok (.iushr, 1) := by decide +kernel
theorem dJ6_bitCount_0f7a4_28 : decode cJ6_bitCount_0f7a4 28 = .ok (.iadd, 1) := by decide +kernel
theorem dJ6_bitCount_0f7a4_29 : decode cJ6_bitCount_0f7a4 29 = .ok (.ldc_w 267, 3) := by decide +kernel
theorem dJ6_bitCount_0f7a4_32 : decode cJ6_bitCount_0f7a4 32 = .ok (.iand, 1) := by decide +kernel
theorem dJ6_bitCount_0f7a4_33 : decode cJ6_bitCount_0f7a4 33 = .ok (.istore_n 0, 1) := by decide +kernel
theorem dJ6_bitCount_0f7a4_34 : decode cJ6_bitCount_0f7a4 34 = .ok (.iload_n 0, 1) := by decide +kernel
theorem dJ6_bitCount_0f7a4_35 : decode cJ6_bitCount_0f7a4 35 = .ok (.iload_n 0, 1) := by decide +kernel
theorem dJ6_bitCount_0f7a4_36 : decode cJ6_bitCount_0f7a4 36 = .ok (.bipush 8, 2) := by decide +kernel
theorem dJ6_bitCount_0f7a4_38 : decode cJ6_bitCount_0f7a4 38 = .ok (.iushr, 1) := by decide +kernel
theorem dJ6_bitCount_0f7a4_39 : decode cJ6_bitCount_0f7a4 39 = .ok (.iadd, 1) := by decide +kernel
theorem dJ6_bitCount_0f7a4_40 : decode cJ6_bitCount_0f7a4 40 = .ok (.istore_n 0, 1) := by decide +kernel
theorem dJ6_bitCount_0f7a4_41 : decode cJ6_bitCount_0f7a4 41 = .ok (.iload_n 0, 1) := by decide +kernel
theorem dJ6_bitCount_0f7a4_42 : decode cJ6_bitCount_0f7a4 42 = .ok (.iload_n 0, 1) := by decide +kernel
theorem dJ6_bitCount_0f7a4_43 : decode cJ6_bitCount_0f7a4 43 = .ok (.bipush 16, 2) := by decide +kernel
theorem dJ6_bitCount_0f7a4_45 : decode cJ6_bitCount_0f7a4 45 = .ok (.iushr, 1) := by decide +kernel
theorem dJ6_bitCount_0f7a4_46 : decode cJ6_bitCount_0f7a4 46 = .ok (.iadd, 1) := by decide +kernel
theorem dJ6_bitCount_0f7a4_47 : decode cJ6_bitCount_0f7a4 47 = .ok (.istore_n 0, 1) := by decide +kernel
theorem dJ6_bitCount_0f7a4_48 : decode cJ6_bitCount_0f7a4 48 = .ok (.iload_n 0, 1) := by decide +kernel
theorem dJ6_bitCount_0f7a4_49 : decode cJ6_bitCount_0f7a4 49 = .ok (.bipush 63, 2) := by decide +kernel
theorem dJ6_bitCount_0f7a4_51 : decode cJ6_bitCount_0f7a4 51 = .ok (.iand, 1) := by decide +kernel
theorem dJ6_bitCount_0f7a4_52 : decode cJ6_bitCount_0f7a4 52 = .ok (.ireturn, 1) := by decide +kernel
theorem dJ9_max_7cf53_0 : decode cJ9_max_7cf53 0 = .ok (.iload_n 0, 1) := by decide +kernel
theorem dJ9_max_7cf53_1 : decode cJ9_max_7cf53 1 = .ok (.iload_n 1, 1) := by decide +kernel
theorem dJ9_max_7cf53_2 : decode cJ9_max_7cf53 2 = .ok (.if_icmp .lt 7, 3) := by decide +kernel
theorem dJ9_max_7cf53_5 : decode cJ9_max_7cf53 5 = .ok (.iload_n 0, 1) := by decide +kernel
theorem dJ9_max_7cf53_6 : decode cJ9_max_7cf53 6 = .ok (.goto 4, 3) := by decide +kernel
theorem dJ9_max_7cf53_9 : decode cJ9_max_7cf53 9 = .ok (.iload_n 1, 1) := by decide +kernel
theorem dJ9_max_7cf53_10 : decode cJ9_max_7cf53 10 = .ok (.ireturn, 1) := by decide +kernel
theorem dJ9_min_7cf53_0 : decode cJ9_min_7cf53 0 = .ok (.iload_n 0, 1) := by decide +kernel
theorem dJ9_min_7cf53_1 : decode cJ9_min_7cf53 1 = .ok (.iload_n 1, 1) := by decide +kernel
theorem dJ9_min_7cf53_2 : decode cJ9_min_7cf53 2 = .ok (.if_icmp .gt 7, 3) := by decide +kernel
theorem dJ9_min_7cf53_5 : decode cJ9_min_7cf53 5 = .ok (.iload_n 0, 1) := by decide +kernel
theorem dJ9_min_7cf53_6 : decode cJ9_min_7cf53 6 = .ok (.goto 4, 3) := by decide +kernel
theorem dJ9_min_7cf53_9 : decode cJ9_min_7cf53 9 = .ok (.iload_n 1, 1) := by decide +kernel
theorem dJ9_min_7cf53_10 : decode cJ9_min_7cf53 10 = .ok (.ireturn, 1) := by decide +kernel
end
section
/-! STATES AND WORLDS: an object's state is a function: St j k, the k-th number of its j-th array; j = 0: its own numbers by their slots -/
abbrev St : Type := Nat → Nat → Int32
def st_set (g : St) (j k : Nat) (x : Int32) : St := fun i => if i = j then upd (g j) k x else g i
def f_at (n : Nat) (f : Nat → Int32) (i : Int32) : Int32 := if i < 0 then -1 else if nI n ≤ i then -1 else f i.toNatClampNeg
def f_put (n : Nat) (f : Nat → Int32) (i x : Int32) : Nat → Int32 := if i < 0 then f else if nI n ≤ i then f else upd f i.toNatClampNeg x
def st_put (g : St) (j n : Nat) (i x : Int32) : St := fun i' => if i' = j then f_put n (g j) i x else g i'
/-- a Row and its numbers -/
def rw2 (r a : Nat) (cI : ClassId) (n : Nat) (f : Nat → Int32) : va_W := [(r, .inr (2, [.ref a])), (a, .inl (cI, n, .inl f))]
/-- the links between nest mates -/
def nwL : List Cond := [.methodLinkNest RX0 78 yX4_contains RX4, .methodLinkNest RX3 62 yX4_contains RX4, .methodLinkNest RX1 51 yX4_contains RX4,
  .methodLinkNest RX4 9 yX0_init RX4, .methodLinkNest RX4 18 yX3_init RX4, .methodLinkNest RX4 25 yX1_init RX4,
  .fieldLinkNest RX4 34 RX0 "minute" "I" RX4, .fieldLinkNest RX4 42 RX0 "tables" "I" RX4, .fieldLinkNest RX4 76 RX0 "groups" "I" RX4, .fieldLinkNest RX4 169 RX0 "players" "LMeeplehouse$Row;" RX4,
  .fieldLinkNest RX4 49 RX3 "titles" "I" RX4, .fieldLinkNest RX4 63 RX3 "copies" "I" RX4, .fieldLinkNest RX4 182 RX3 "titleOf" "LMeeplehouse$Row;" RX4]
def nw (U : State) : Prop := ∀ w ∈ nwL, va_Nw w U
theorem nw_tab : ∀ w ∈ nwL, w.onTables = true := by
  intro w hw
  simp only [nwL, List.mem_cons, List.not_mem_nil, or_false] at hw
  rcases hw with rfl | rfl | rfl | rfl | rfl | rfl | rfl | rfl | rfl | rfl | rfl | rfl | rfl <;> rfl
theorem nw_same {u U : State} (h : u.vm = U.vm) (hZ : nw u) : nw U := fun w hw => va_Nw.same (nw_tab w hw) h (hZ w hw)
theorem nw_warm {s U : State} (hW : s.WarmedH U.vm) (hZ : nw s) : nw U := by
  intro w hw
  have h := hZ w hw
  simp only [nwL, List.mem_cons, List.not_mem_nil, or_false] at hw
  rcases hw with rfl | rfl | rfl | rfl | rfl | rfl | rfl | rfl | rfl | rfl | rfl | rfl | rfl
  all_goals first | exact va_Nw.warmM hW h | exact va_Nw.warmF hW h
theorem nw_use {s : State} {args : Array Value} (hZ : nw s) {w : Cond} (k : Nat) (hk : nwL[k]? = some w) : w.before args s = true :=
  va_Nw.use (nw_tab w (List.mem_of_getElem? hk)) (hZ w (List.mem_of_getElem? hk))
theorem nw_w {s : State} (hZ : nw s) {w : Cond} (k : Nat) (hk : nwL[k]? = some w) : va_Nw w s := hZ w (List.mem_of_getElem? hk)
/-- a start: the cells, the tables, the nest -/
abbrev rpS (D : va_G) (cl : List vw_C) (tys : List (ClassId × FieldType)) (ws : va_W) (U : State) : Prop := va_P D cl ws U.heap ∧ va_K D cl tys U ∧ nw U
abbrev wpS (D : va_G) (cl : List vw_C) (tys : List (ClassId × FieldType)) (ws : va_W) (sz : Nat) (U : State) : Prop := U.heap.size = sz ∧ va_P D cl ws U.heap ∧ va_K D cl tys U ∧ nw U ∧ va_D (fun _ => True) ws
/-- an end: the cells -/
abbrev wqB (D : va_G) (cl : List vw_C) (ws : va_W) (A : Nat → Prop) (t : State) : Prop := va_P D cl ws t.heap ∧ va_D A ws
theorem rp_blind {av : List Value} {D : va_G} {cl : List vw_C} {tys : List (ClassId × FieldType)} {ws : va_W} : FrameBlind (va_Pc av (rpS D cl tys ws)) :=
  fun a U g mk q => ⟨q.1, q.2.1, va_K.moved (u := U) (U := U.calling g mk a) (Vm.Alike.refl U.vm) q.2.2.1, nw_same (u := U) (U := U.calling g mk a) rfl q.2.2.2⟩
theorem wp_blind {av : List Value} {D : va_G} {cl : List vw_C} {tys : List (ClassId × FieldType)} {ws : va_W} {sz : Nat} : FrameBlind (va_Pc av (wpS D cl tys ws sz)) :=
  fun a U g mk q => ⟨q.1, q.2.1, q.2.2.1, va_K.moved (u := U) (U := U.calling g mk a) (Vm.Alike.refl U.vm) q.2.2.2.1, nw_same (u := U) (U := U.calling g mk a) rfl q.2.2.2.2.1, q.2.2.2.2.2⟩
theorem rd_bool {v : Int32} (h : v = 0 ∨ v = 1) : narrow .boolean (.int v) = .int v := by
  rcases h with rfl | rfl <;> rfl
/-- between two parts of a world a call has changed the middle -/
theorem va_mid {A0 : Nat → Prop} {D : va_G} {cl : List vw_C} {w1 wc w2 wd : va_W} {H H1 : Heap} (hP : va_P D cl (w1 ++ (wc ++ w2)) H) (hD : va_D A0 (w1 ++ (wc ++ w2)))
    (hk : ∀ q : Nat, q < H.size → ¬ va_A wc H.size q → H1[q]? = H[q]?) (hF : ∀ q, va_A wc H.size q → A0 q) (hP1 : va_P D cl wd H1) (hD1 : va_D (va_A wc H.size) wd) : va_P D cl (w1 ++ (wd ++ w2)) H1 ∧ va_D A0 (w1 ++ (wd ++ w2)) := by
  have g1 : ∀ (k : Nat) (q : Nat × va_E), w1[k]? = some q → (w1 ++ (wc ++ w2))[k]? = some q := fun k q h => by
    rw [List.getElem?_append_left (List.getElem?_eq_some_iff.mp h).1]; exact h
  have gc : ∀ (k : Nat) (q : Nat × va_E), wc[k]? = some q → (w1 ++ (wc ++ w2))[w1.length + k]? = some q := fun k q h => by
    rw [List.getElem?_append_right (by omega), show w1.length + k - w1.length = k by omega, List.getElem?_append_left (List.getElem?_eq_some_iff.mp h).1]; exact h
  have g2 : ∀ (k : Nat) (q : Nat × va_E), w2[k]? = some q → (w1 ++ (wc ++ w2))[w1.length + (wc.length + k)]? = some q := fun k q h => by
    rw [List.getElem?_append_right (by omega), show w1.length + (wc.length + k) - w1.length = wc.length + k by omega, List.getElem?_append_right (by omega), show wc.length + k - wc.length = k by omega]; exact h
  have l1 : ∀ (k : Nat) (q : Nat × va_E), w1[k]? = some q → k < w1.length := fun k q h => (List.getElem?_eq_some_iff.mp h).1
  have lc : ∀ (k : Nat) (q : Nat × va_E), wc[k]? = some q → k < wc.length := fun k q h => (List.getElem?_eq_some_iff.mp h).1
  have a1 : ∀ (k : Nat) (q : Nat × va_E), w1[k]? = some q → q.1 < H.size ∧ ¬ va_A wc H.size q.1 := fun k q h => by
    have hl := (hP _ q (g1 k q h)).lt
    refine ⟨hl, fun z => ?_⟩
    rcases z with ⟨k2, e, z⟩ | z
    · have := hD.1 _ _ _ _ (g1 k q h) (gc k2 _ z) rfl
      have := l1 k q h
      omega
    · omega
  have a2 : ∀ (k : Nat) (q : Nat × va_E), w2[k]? = some q → q.1 < H.size ∧ ¬ va_A wc H.size q.1 := fun k q h => by
    have hl := (hP _ q (g2 k q h)).lt
    refine ⟨hl, fun z => ?_⟩
    rcases z with ⟨k2, e, z⟩ | z
    · have := hD.1 _ _ _ _ (g2 k q h) (gc k2 _ z) rfl
      have := lc k2 _ z
      omega
    · omega
  refine ⟨va_P.app (fun k q h => (hP _ q (g1 k q h)).kept (hk q.1 (a1 k q h).1 (a1 k q h).2)) (va_P.app hP1 (fun k q h => (hP _ q (g2 k q h)).kept (hk q.1 (a2 k q h).1 (a2 k q h).2))), ?_⟩
  have d1 : va_D A0 w1 := ⟨fun i j x y hi hj hxy => hD.1 i j x y (g1 i x hi) (g1 j y hj) hxy, fun k q h => hD.2 k q (g1 k q h)⟩
  have d2 : va_D A0 w2 := ⟨fun i j x y hi hj hxy => by have := hD.1 _ _ x y (g2 i x hi) (g2 j y hj) hxy; omega, fun k q h => hD.2 _ q (g2 k q h)⟩
  refine va_D.app d1 (va_D.app (hD1.weaken (fun k q _ h => hF q.1 h)) d2 (fun i j x y hx hy hxy => (a2 j y hy).2 (by rw [← hxy]; exact hD1.2 i x hx))) (fun i j x y hx hy hxy => ?_)
  by_cases hl : j < wd.length
  · rw [List.getElem?_append_left hl] at hy
    exact (a1 i x hx).2 (by rw [hxy]; exact hD1.2 j y hy)
  · rw [List.getElem?_append_right (by omega)] at hy
    have := hD.1 _ _ x y (g1 i x hx) (g2 _ y hy) hxy
    have := l1 i x hx
    omega
theorem va_midF {A0 : Nat → Prop} {w1 wc w2 : va_W} {H0 H : Heap} {locs : List Loc} (hD : va_D A0 (w1 ++ (wc ++ w2))) (hS : va_S A0 H0 H locs) (hA : ∀ q, H0.size ≤ q → A0 q) : ∀ q, va_A wc H.size q → A0 q := by
  intro q h
  rcases h with ⟨k, e, h⟩ | h
  · refine hD.2 (w1.length + k) (q, e) ?_
    rw [List.getElem?_append_right (by omega), show w1.length + k - w1.length = k by omega, List.getElem?_append_left (List.getElem?_eq_some_iff.mp h).1]; exact h
  · exact hA q (Nat.le_trans hS.1 h)
section BAS
variable {p : Program} {l : Launch} {e : Env} {R : Room} {s : State} {m : MethodId} {args : Array Value} {below : List Frame} {meth : Method} {c : Code} {H : Heap} {locs : List Loc} {cells slots : Nat} {Q : State → Prop}
variable {pc : Nat} {ls : Array Slot} {rest st0 : List Value}
theorem ro_go {mc ms : Nat} {a : Array Value} {r : Int32} (hm : mc = 0) (hs : ms = 0) (hr : va_Run p l e R s m args below meth c H locs cells slots mc ms (F0 m pc ls st0) rest (QcRead r a) (fun _ => False)) (kk : W p l e R s m args below meth c H locs cells slots Q (F0 m (pc + 3) ls (.int r :: rest))) : W p l e R s m args below meth c H locs cells slots Q (F0 m pc ls st0) := by
  subst hm; subst hs
  intro T hT X
  obtain ⟨v, st₀, t, T', L, h0, X', hL, e1, e2, ⟨hv, hh⟩, st⟩ := hr T hT X
  cases hv
  obtain ⟨t2, a1, b1⟩ := kk T' (by rw [e1, hh, h0]) (Stand.forget X' (fun q h => (hL q h).elim))
  exact ⟨t2, st t2 a1, b1⟩
variable {y : MethodName} {bytes cc : ByteArray} {maxL nL n index : Nat} {ret : Option FieldType} {ws : List Cond} {rm : Room} {Ts : List Cond} {own C host : String} {b : Addr} {As : List Value} {D : va_G} {cl : List vw_C} {tys : List (ClassId × FieldType)} {wc wd w1 w2 ws0 ws1 : va_W} {r : Int32} {ci N : Nat} {fs : List Value} {T : u_T} {A : Nat → Prop} {H0 : Heap}
theorem ro_V (S : CallFix p m c cc nL s args Ts own) (hM : Met l y ws rm (va_Pc (.ref b :: As) (rpS D cl tys wc)) (QcRead r) 0 0 (fun _ => False)) (cw : CallW R s args own C index y bytes maxL ret ws rm 0 0 n) (hP : va_P D cl wc H) (hK : va_K D cl tys s) (hN : nw s)
    (he : wc[0]? = some (b, .inr (ci, fs))) (hc : cl[ci]? = some (C, T, N)) (hst : st0 = As.reverse ++ .ref b :: rest) (hn : As.length = n) (hsize : ls.size = nL) (hW : (rest.map fun v => v.category).sum ≤ 8) (hf : cells ≤ R.cells ∧ slots ≤ R.slots) (hdg : decode cc pc = .ok (.invokevirtual index, 3))
    (kk : W p l e R s m args below meth c H locs cells slots Q (F0 m (pc + 3) ls (.int r :: rest))) : W p l e R s m args below meth c H locs cells slots Q (F0 m pc ls st0) :=
  ro_go rfl rfl (va_runV (As := As) (rest := rest) S hM cw ⟨rp_blind, va_recv hK hP hc he, fun U hU hW => ⟨rfl, by rw [hU]; exact hP, va_K.moved hW.alike hK, nw_warm hW hN⟩⟩ rfl hn hsize hst (lv_room hW) hdg hf) kk
theorem ro_S (S : CallFix p m c cc nL s args Ts own) (hM : Met l y ws rm (va_Pc As (rpS D cl tys wc)) (QcRead r) 0 0 (fun _ => False)) (cw : CallB R s args own index y bytes maxL ret ws rm 0 0 n ∧ (Cond.static y).before args s = true) (hP : va_P D cl wc H) (hK : va_K D cl tys s) (hN : nw s)
    (hst : st0 = As.reverse ++ rest) (hn : As.length = n) (hsize : ls.size = nL) (hW : (rest.map fun v => v.category).sum ≤ 8) (hf : cells ≤ R.cells ∧ slots ≤ R.slots) (hdg : decode cc pc = .ok (.invokestatic index, 3))
    (kk : W p l e R s m args below meth c H locs cells slots Q (F0 m (pc + 3) ls (.int r :: rest))) : W p l e R s m args below meth c H locs cells slots Q (F0 m pc ls st0) :=
  ro_go rfl rfl (va_runS (As := As) (rest := rest) S hM cw ⟨rp_blind, fun U hU hW => ⟨rfl, by rw [hU]; exact hP, va_K.moved hW.alike hK, nw_warm hW hN⟩⟩ rfl hn hsize hst (lv_room hW) hdg hf) kk
theorem ro_SN (S : CallFix p m c cc nL s args Ts own) (hM : Met l y ws rm (va_Pc As (rpS D cl tys wc)) (QcRead r) 0 0 (fun _ => False)) (cw : va_CN R s args own index y host bytes maxL ret ws rm 0 0 n ∧ (Cond.static y).before args s = true ∧ True) (hP : va_P D cl wc H) (hK : va_K D cl tys s) (hN : nw s)
    (hst : st0 = As.reverse ++ rest) (hn : As.length = n) (hsize : ls.size = nL) (hW : (rest.map fun v => v.category).sum ≤ 8) (hf : cells ≤ R.cells ∧ slots ≤ R.slots) (hdg : decode cc pc = .ok (.invokestatic index, 3))
    (kk : W p l e R s m args below meth c H locs cells slots Q (F0 m (pc + 3) ls (.int r :: rest))) : W p l e R s m args below meth c H locs cells slots Q (F0 m pc ls st0) :=
  ro_go rfl rfl (va_runSN (As := As) (rest := rest) S hM cw ⟨rp_blind, fun U hU hW => ⟨rfl, by rw [hU]; exact hP, va_K.moved hW.alike hK, nw_warm hW hN⟩⟩ rfl hn hsize hst (lv_room hW) hdg hf) kk
theorem wr_Vi (S : CallFix p m c cc nL s args Ts own) (hM : Met l y ws rm (va_Pc (.ref b :: As) (wpS D cl tys wc H.size)) (va_Qi (fun (r' : Int32) (_ : Unit) => r' = r) (fun _ t => wqB D cl wd (va_A wc H.size) t) (va_A wc H.size)) 0 0 (va_A wc H.size)) (cw : CallW R s args own C index y bytes maxL ret ws rm 0 0 n)
    (hP : va_P D cl ws0 H) (hD : va_D A ws0) (hS : va_S A H0 H locs) (hA : ∀ q, H0.size ≤ q → A q) (hK : va_K D cl tys s) (hN : nw s) (hw : ws0 = w1 ++ (wc ++ w2)) (hw' : w1 ++ (wd ++ w2) = ws1)
    (he : wc[0]? = some (b, .inr (ci, fs))) (hc : cl[ci]? = some (C, T, N)) (hst : st0 = As.reverse ++ .ref b :: rest) (hn : As.length = n) (hsize : ls.size = nL) (hW : (rest.map fun v => v.category).sum ≤ 8) (hf : cells ≤ R.cells ∧ slots ≤ R.slots) (hdg : decode cc pc = .ok (.invokevirtual index, 3))
    (kk : ∀ (H1 : Heap) (locs1 : List Loc), va_P D cl ws1 H1 → va_D A ws1 → va_S A H0 H1 locs1 → W p l e R s m args below meth c H1 locs1 cells slots Q (F0 m (pc + 3) ls (.int r :: rest))) : W p l e R s m args below meth c H locs cells slots Q (F0 m pc ls st0) := by
  subst hw; subst hw'
  have hF := va_midF hD hS hA
  have hPc : va_P D cl wc H := fun k q h => hP (w1.length + k) q (by rw [List.getElem?_append_right (by omega), show w1.length + k - w1.length = k by omega, List.getElem?_append_left (List.getElem?_eq_some_iff.mp h).1]; exact h)
  have hDc : va_D (fun _ => True) wc := ⟨fun i j x y hi hj hxy => by
    have := hD.1 (w1.length + i) (w1.length + j) x y (by rw [List.getElem?_append_right (by omega), show w1.length + i - w1.length = i by omega, List.getElem?_append_left (List.getElem?_eq_some_iff.mp hi).1]; exact hi) (by rw [List.getElem?_append_right (by omega), show w1.length + j - w1.length = j by omega, List.getElem?_append_left (List.getElem?_eq_some_iff.mp hj).1]; exact hj) hxy
    omega, fun _ _ _ => trivial⟩
  refine va_calli (va_runV (As := As) (rest := rest) S hM cw ⟨wp_blind, va_recv hK hPc hc he, fun U hU hW => ⟨rfl, by rw [hU], by rw [hU]; exact hPc, va_K.moved hW.alike hK, nw_warm hW hN, hDc⟩⟩ rfl hn hsize hst (lv_room hW) hdg hf) hS (fun q _ h => hF q h) hF (fun r' u t H1 locs1 ht hvm hw hB hz1 hk1 hS1 => ?_)
  subst hw
  have hP1 := hB.1
  rw [ht] at hP1
  obtain ⟨k1, k2⟩ := va_mid hP hD hk1 hF hP1 hB.2
  exact kk H1 locs1 k1 k2 hS1
theorem wr_Vv (S : CallFix p m c cc nL s args Ts own) (hM : Met l y ws rm (va_Pc (.ref b :: As) (wpS D cl tys wc H.size)) (va_Qv (fun _ : Unit => True) (fun _ t => wqB D cl wd (va_A wc H.size) t) (va_A wc H.size)) 0 0 (va_A wc H.size)) (cw : CallW R s args own C index y bytes maxL ret ws rm 0 0 n)
    (hP : va_P D cl ws0 H) (hD : va_D A ws0) (hS : va_S A H0 H locs) (hA : ∀ q, H0.size ≤ q → A q) (hK : va_K D cl tys s) (hN : nw s) (hw : ws0 = w1 ++ (wc ++ w2)) (hw' : w1 ++ (wd ++ w2) = ws1)
    (he : wc[0]? = some (b, .inr (ci, fs))) (hc : cl[ci]? = some (C, T, N)) (hst : st0 = As.reverse ++ .ref b :: rest) (hn : As.length = n) (hsize : ls.size = nL) (hW : (rest.map fun v => v.category).sum ≤ 8) (hf : cells ≤ R.cells ∧ slots ≤ R.slots) (hdg : decode cc pc = .ok (.invokevirtual index, 3))
    (kk : ∀ (H1 : Heap) (locs1 : List Loc), va_P D cl ws1 H1 → va_D A ws1 → va_S A H0 H1 locs1 → W p l e R s m args below meth c H1 locs1 cells slots Q (F0 m (pc + 3) ls rest)) : W p l e R s m args below meth c H locs cells slots Q (F0 m pc ls st0) := by
  subst hw; subst hw'
  have hF := va_midF hD hS hA
  have hPc : va_P D cl wc H := fun k q h => hP (w1.length + k) q (by rw [List.getElem?_append_right (by omega), show w1.length + k - w1.length = k by omega, List.getElem?_append_left (List.getElem?_eq_some_iff.mp h).1]; exact h)
  have hDc : va_D (fun _ => True) wc := ⟨fun i j x y hi hj hxy => by
    have := hD.1 (w1.length + i) (w1.length + j) x y (by rw [List.getElem?_append_right (by omega), show w1.length + i - w1.length = i by omega, List.getElem?_append_left (List.getElem?_eq_some_iff.mp hi).1]; exact hi) (by rw [List.getElem?_append_right (by omega), show w1.length + j - w1.length = j by omega, List.getElem?_append_left (List.getElem?_eq_some_iff.mp hj).1]; exact hj) hxy
    omega, fun _ _ _ => trivial⟩
  refine va_callv (va_runV (As := As) (rest := rest) S hM cw ⟨wp_blind, va_recv hK hPc hc he, fun U hU hW => ⟨rfl, by rw [hU], by rw [hU]; exact hPc, va_K.moved hW.alike hK, nw_warm hW hN, hDc⟩⟩ rfl hn hsize hst (lv_room hW) hdg hf) hS (fun q _ h => hF q h) hF (fun u t H1 locs1 ht hvm hw hB hz1 hk1 hS1 => ?_)
  have hP1 := hB.1
  rw [ht] at hP1
  obtain ⟨k1, k2⟩ := va_mid hP hD hk1 hF hP1 hB.2
  exact kk H1 locs1 k1 k2 hS1
end BAS
/-- the contract of a method that only reads -/
theorem ro_met {l : Launch} {y : MethodName} {ws ws' : List Cond} {rm : Room} {cc : ByteArray} {maxL : Nat} {ret : Option FieldType} {D : va_G} {cl : List vw_C} {tys : List (ClassId × FieldType)} {wc : va_W} {av : List Value} {r : Int32}
    (hy : plainName y.cls = true) (hw : ws = Cond.code y cc maxL ret :: ws') (hn : (lg_sl av).length ≤ maxL)
    (body : ∀ (p : Program) (e : Env) (s : State) (m : MethodId) (below : List Frame) (meth : Method) (c : Code), p.tables.exec = Jvm.exec → c.code = cc → c.maxLocals = maxL → meth.sig.returnType = ret → meth.locks = false → (∀ w ∈ ws, w.before av.toArray s = true) → s.vm.findClass y.cls = some m.cls →
      va_P D cl wc s.heap → va_K D cl tys s → nw s → ∀ ls : Array Slot, lv_has ls maxL (lv_args 0 av) → W p l e rm s m av.toArray below meth c s.heap [] 0 0 (MQ below (QcRead r) av.toArray s 0 0 (fun _ => False)) (F0 m 0 ls [])) :
    Met l y ws rm (va_Pc av (rpS D cl tys wc)) (QcRead r) 0 0 (fun _ => False) := by
  refine Met.ofW (cc := cc) (maxL := maxL) (ret := ret) hy hw ?_
  intro p e s m args below meth c s₁ B hml hv
  obtain ⟨rfl, hP, hK, hN⟩ := hv
  have hl := lv_entry av (n := maxL) hn
  rw [lg_entry_eq]
  exact body p e s m below meth c B.exec B.bytes hml B.returns B.notSynchronized (atoms_spec (ws := ws) B.pre) (findClass_of_methodNamed B.named) hP hK hN _ hl
/-- the contract of a method that writes -/
theorem wr_met {l : Launch} {y : MethodName} {ws ws' : List Cond} {rm : Room} {cc : ByteArray} {maxL : Nat} {ret : Option FieldType} {D : va_G} {cl : List vw_C} {tys : List (ClassId × FieldType)} {wc : va_W} {av : List Value} {sz mc ms : Nat} (Qf : (Nat → Prop) → Array Value → State → Outcome → State → Prop)
    (hy : plainName y.cls = true) (hw : ws = Cond.code y cc maxL ret :: ws') (hn : (lg_sl av).length ≤ maxL)
    (body : ∀ (p : Program) (e : Env) (s : State) (m : MethodId) (below : List Frame) (meth : Method) (c : Code) (A : Nat → Prop), p.tables.exec = Jvm.exec → c.code = cc → c.maxLocals = maxL → meth.sig.returnType = ret → meth.locks = false → (∀ w ∈ ws, w.before av.toArray s = true) → s.vm.findClass y.cls = some m.cls → meth.name = y.name →
      va_P D cl wc s.heap → va_K D cl tys s → nw s → va_D A wc → (∀ q : Nat, s.heap.size ≤ q → A q) → ∀ ls : Array Slot, lv_has ls maxL (lv_args 0 av) → W p l e rm s m av.toArray below meth c s.heap [] 0 0 (MQ below (Qf A) av.toArray s mc ms A) (F0 m 0 ls [])) :
    Met l y ws rm (va_Pc av (wpS D cl tys wc sz)) (Qf (va_A wc sz)) mc ms (va_A wc sz) := by
  refine Met.ofW (cc := cc) (maxL := maxL) (ret := ret) hy hw ?_
  intro p e s m args below meth c s₁ B hml hv
  obtain ⟨rfl, hsz, hP, hK, hN, hD⟩ := hv
  have hl := lv_entry av (n := maxL) hn
  rw [lg_entry_eq]
  subst hsz
  exact body p e s m below meth c _ B.exec B.bytes hml B.returns B.notSynchronized (atoms_spec (ws := ws) B.pre) (findClass_of_methodNamed B.named) (name_of_methodNamed B.named B.method).1 hP hK hN hD.self (fun q h => Or.inr h) _ hl
end
section
/-! Row: its two methods -/
theorem iX2_at_X2 : ∀ w ∈ wsX20, w ∈ wsX2_at := by decide +kernel
theorem iX2_put_X2 : ∀ w ∈ wsX20, w ∈ wsX2_put := by decide +kernel
theorem kX2_at : (.fieldLink RX2 15 "Meeplehouse$Row" "cells" "[I" : Cond) ∈ wsX2_at := by decide +kernel
theorem kX2_put : (.fieldLink RX2 15 "Meeplehouse$Row" "cells" "[I" : Cond) ∈ wsX2_put := by decide +kernel
theorem rw_in {n : Nat} {x : Int32} (hn : n < 2 ^ 31) (h1 : ¬ x < 0) (h2 : ¬ nI n ≤ x) : vp_in x n := by
  rw [vp_in_iff]
  rw [Int32.lt_iff_toInt_lt, Int32.toInt_zero] at h1
  rw [Int32.le_iff_toInt_le, nI_toInt hn] at h2
  omega
set_option maxRecDepth 100000 in
set_option maxHeartbeats 4000000 in
theorem c_X2_at (l : Launch) (dC : Nat → ClassId) (dI : Nat → Nat → Nat) (cI : ClassId) (r a n : Nat) (f : Nat → Int32) (x : Int32) (hn : n < 2 ^ 31) : Met l yX2_at wsX2_at { frames := 0, cells := 0, slots := 0, locals := 0 } (va_Pc [.ref r, .int x] (rpS (dC, dI) vwCl [(cI, .int)] (rw2 r a cI n f))) (QcRead (f_at n f x)) 0 0 (fun _ => False) := by
  refine ro_met (cc := cX2_at) (maxL := 2) (ret := some .int) (by decide) rfl (Nat.le_of_ble_eq_true rfl) ?_
  intro p e s m below meth c hx hb hml hr hlk hts hown hP hK hN ls hl
  have hl : lv_has ls 2 [(0, .ref r), (1, .int x)] := hl
  refine lv_iload_n hx hb dX2_at_0 rfl (lv_at hl 1 rfl) ?_
  refine lv_if_lt (tgt := 22) hx hb dX2_at_1 (by decide) (fun c1 => ?_) (fun c1 => ?_)
  · refine lv_iconst (v := -1) hx hb dX2_at_22 (by decide) ?_
    exact W.iret hx hb hr (fun t ht _ => ⟨by rw [f_at, if_pos c1], ht⟩) (fun _ h => nomatch h) dX2_at_23
  · refine lv_iload_n hx hb dX2_at_4 rfl (lv_at hl 1 rfl) ?_
    refine lv_aload_n hx hb dX2_at_5 rfl (lv_at hl 0 rfl) ?_
    refine va_get (D := (dC, dI)) (ci := 2) (v := .ref a) (C := RX2) (T := TX2) (N := 1) hx hb hts iX2_at_X2 hown hK hP 0 rfl rfl 0 (by decide) (hts _ kX2_at) (fun _ h9 => h9) rfl dX2_at_6 ?_
    refine va_alen (v := nI n) hx hb hK hP 1 0 rfl rfl rfl dX2_at_9 ?_
    refine lv_icmp_ge (tgt := 22) hx hb dX2_at_10 (by decide) (fun c2 => ?_) (fun c2 => ?_)
    · refine lv_iconst (v := -1) hx hb dX2_at_22 (by decide) ?_
      exact W.iret hx hb hr (fun t ht _ => ⟨by rw [f_at, if_neg c1, if_pos c2], ht⟩) (fun _ h => nomatch h) dX2_at_23
    · refine lv_aload_n hx hb dX2_at_13 rfl (lv_at hl 0 rfl) ?_
      refine va_get (D := (dC, dI)) (ci := 2) (v := .ref a) (C := RX2) (T := TX2) (N := 1) hx hb hts iX2_at_X2 hown hK hP 0 rfl rfl 0 (by decide) (hts _ kX2_at) (fun _ h9 => h9) rfl dX2_at_14 ?_
      refine lv_iload_n hx hb dX2_at_17 rfl (lv_at hl 1 rfl) ?_
      refine va_iald hx hb hK hP 1 0 rfl rfl (rw_in hn c1 c2) dX2_at_18 ?_
      refine lv_goto (tgt := 23) hx hb dX2_at_19 (by decide) ?_
      exact W.iret hx hb hr (fun t ht _ => ⟨by rw [f_at, if_neg c1, if_neg c2], ht⟩) (fun _ h => nomatch h) dX2_at_23
set_option maxRecDepth 100000 in
set_option maxHeartbeats 4000000 in
theorem c_X2_put (l : Launch) (dC : Nat → ClassId) (dI : Nat → Nat → Nat) (cI : ClassId) (r a n : Nat) (f : Nat → Int32) (x y : Int32) (sz : Nat) (hn : n < 2 ^ 31) : Met l yX2_put wsX2_put { frames := 0, cells := 0, slots := 0, locals := 0 } (va_Pc [.ref r, .int x, .int y] (wpS (dC, dI) vwCl [(cI, .int)] (rw2 r a cI n f) sz)) (va_Qv (fun _ : Unit => True) (fun _ t => wqB (dC, dI) vwCl (rw2 r a cI n (f_put n f x y)) (va_A (rw2 r a cI n f) sz) t) (va_A (rw2 r a cI n f) sz)) 0 0 (va_A (rw2 r a cI n f) sz) := by
  refine wr_met (fun A => (va_Qv (fun _ : Unit => True) (fun _ t => wqB (dC, dI) vwCl (rw2 r a cI n (f_put n f x y)) A t) A)) (cc := cX2_put) (maxL := 3) (ret := none) (by decide) rfl (Nat.le_of_ble_eq_true rfl) ?_
  intro p e s m below meth c A hx hb hml hr hlk hts hown hnm hP hK hN hD hA ls hl
  have hS : va_S A s.heap s.heap [] := va_S.rf
  have hl : lv_has ls 3 [(0, .ref r), (1, .int x), (2, .int y)] := hl
  refine lv_iload_n hx hb dX2_put_0 rfl (lv_at hl 1 rfl) ?_
  refine lv_if_lt (tgt := 20) hx hb dX2_put_1 (by decide) (fun c1 => ?_) (fun c1 => ?_)
  · have he : f_put n f x y = f := by rw [f_put, if_pos c1]
    exact W.vret hx hb hr (fun t ht _ => ⟨⟨(), rfl, trivial, by rw [ht, he]; exact hP, by rw [he]; exact hD⟩, hS.F ht⟩) hS.2.2 dX2_put_20
  · refine lv_iload_n hx hb dX2_put_4 rfl (lv_at hl 1 rfl) ?_
    refine lv_aload_n hx hb dX2_put_5 rfl (lv_at hl 0 rfl) ?_
    refine va_get (D := (dC, dI)) (ci := 2) (v := .ref a) (C := RX2) (T := TX2) (N := 1) hx hb hts iX2_put_X2 hown hK hP 0 rfl rfl 0 (by decide) (hts _ kX2_put) (fun _ h9 => h9) rfl dX2_put_6 ?_
    refine va_alen (v := nI n) hx hb hK hP 1 0 rfl rfl rfl dX2_put_9 ?_
    refine lv_icmp_ge (tgt := 20) hx hb dX2_put_10 (by decide) (fun c2 => ?_) (fun c2 => ?_)
    · have he : f_put n f x y = f := by rw [f_put, if_neg c1, if_pos c2]
      exact W.vret hx hb hr (fun t ht _ => ⟨⟨(), rfl, trivial, by rw [ht, he]; exact hP, by rw [he]; exact hD⟩, hS.F ht⟩) hS.2.2 dX2_put_20
    · refine lv_aload_n hx hb dX2_put_13 rfl (lv_at hl 0 rfl) ?_
      refine va_get (D := (dC, dI)) (ci := 2) (v := .ref a) (C := RX2) (T := TX2) (N := 1) hx hb hts iX2_put_X2 hown hK hP 0 rfl rfl 0 (by decide) (hts _ kX2_put) (fun _ h9 => h9) rfl dX2_put_14 ?_
      refine lv_iload_n hx hb dX2_put_17 rfl (lv_at hl 1 rfl) ?_
      refine lv_iload_n hx hb dX2_put_18 rfl (lv_at hl 2 rfl) ?_
      refine va_iast hx hb hK hP hD hS 1 0 rfl rfl (rw_in hn c1 c2) dX2_put_19 (fun H locs hP hD hS => ?_)
      have he : f_put n f x y = upd f x.toNatClampNeg y := by rw [f_put, if_neg c1, if_neg c2]
      have hP : va_P (dC, dI) vwCl (rw2 r a cI n (f_put n f x y)) H := by rw [he]; exact hP
      have hD : va_D A (rw2 r a cI n (f_put n f x y)) := by rw [he]; exact hD
      exact W.vret hx hb hr (fun t ht _ => ⟨⟨(), rfl, trivial, by rw [ht]; exact hP, hD⟩, hS.F ht⟩) hS.2.2 dX2_put_20
end
section
def P_X4_contains (a0 : Int32) (a1 : Int32) (r : Int32) : Prop := ((((a0 >>> (a1 &&& 31)) &&& (1 : Int32)) = 0 → (r = (0 : Int32))) ∧ (¬ ((a0 >>> (a1 &&& 31)) &&& (1 : Int32)) = 0 → (r = (1 : Int32))))
set_option maxRecDepth 100000 in
set_option maxHeartbeats 4000000 in
theorem c_X4_contains (l : Launch) (dC : Nat → ClassId) (dI : Nat → Nat → Nat) (cI : ClassId) (a0 : Int32) (a1 : Int32) (r : Int32) (hp : P_X4_contains a0 a1 r) : Met l yX4_contains wsX4_contains { frames := 0, cells := 0, slots := 0, locals := 0 } (va_Pc [.int a0, .int a1] (rpS (dC, dI) vwCl [(cI, .int)] ([]))) (QcRead r) 0 0 (fun _ => False) := by
  refine ro_met (cc := cX4_contains) (maxL := 2) (ret := (some .boolean)) (by decide) rfl (Nat.le_of_ble_eq_true rfl) ?_
  intro p e s m below meth c hx hb hml hr hlk hts hown hP hK hN ls hl
  have hl : lv_has ls 2 [(0, .int a0), (1, .int a1)] := hl
  unfold P_X4_contains at hp
  refine lv_iload_n hx hb dX4_contains_0 rfl (lv_at hl 0 rfl) ?_
  refine lv_iload_n hx hb dX4_contains_1 rfl (lv_at hl 1 rfl) ?_
  refine lv_ishr hx hb dX4_contains_2 ?_
  refine lv_iconst (v := 1) hx hb dX4_contains_3 (by decide) ?_
  refine lv_iand hx hb dX4_contains_4 ?_
  refine lv_if_eq (tgt := 12) hx hb dX4_contains_5 (by decide) (fun c1 => ?_) (fun c1 => ?_)
  · have hp := hp.1 c1
    refine lv_iconst (v := 0) hx hb dX4_contains_12 (by decide) ?_
    exact W.zret (ty := .boolean) hx hb hr rfl (fun t ht _ => ⟨by rw [hp], ht⟩) (fun _ h => nomatch h) dX4_contains_13
  · have hp := hp.2 c1
    refine lv_iconst (v := 1) hx hb dX4_contains_8 (by decide) ?_
    refine lv_goto (tgt := 13) hx hb dX4_contains_9 (by decide) ?_
    exact W.zret (ty := .boolean) hx hb hr rfl (fun t ht _ => ⟨by rw [hp], ht⟩) (fun _ h => nomatch h) dX4_contains_13
end
section
theorem kJ6_bitCount_0f7a4_0 : (.constant RJ6 265 (1431655765) : Cond) ∈ wsJ6_bitCount_0f7a4 := by decide +kernel
theorem kJ6_bitCount_0f7a4_1 : (.constant RJ6 266 (858993459) : Cond) ∈ wsJ6_bitCount_0f7a4 := by decide +kernel
theorem kJ6_bitCount_0f7a4_2 : (.constant RJ6 267 (252645135) : Cond) ∈ wsJ6_bitCount_0f7a4 := by decide +kernel
def P_J6_bitCount_0f7a4 (a0 : Int32) (r : Int32) : Prop := (∀ y1 : Int32, y1 = a0 - (((a0.toUInt32 >>> ((1 : Int32).toUInt32 &&& Int32.toUInt32 31)).toInt32) &&& (1431655765 : Int32)) → (∀ y2 : Int32, y2 = (y1 &&& (858993459 : Int32)) + (((y1.toUInt32 >>> ((2 : Int32).toUInt32 &&& Int32.toUInt32 31)).toInt32) &&& (858993459 : Int32)) → (∀ y3 : Int32, y3 = (y2 + ((y2.toUInt32 >>> ((4 : Int32).toUInt32 &&& Int32.toUInt32 31)).toInt32)) &&& (252645135 : Int32) → (∀ y4 : Int32, y4 = (y3 + ((y3.toUInt32 >>> ((8 : Int32).toUInt32 &&& Int32.toUInt32 31)).toInt32)) + (((y3 + ((y3.toUInt32 >>> ((8 : Int32).toUInt32 &&& Int32.toUInt32 31)).toInt32)).toUInt32 >>> ((16 : Int32).toUInt32 &&& Int32.toUInt32 31)).toInt32) → (r = (y4 &&& (63 : Int32)))))))
set_option maxRecDepth 100000 in
set_option maxHeartbeats 4000000 in
theorem c_J6_bitCount_0f7a4 (l : Launch) (dC : Nat → ClassId) (dI : Nat → Nat → Nat) (cI : ClassId) (a0 : Int32) (r : Int32) (hp : P_J6_bitCount_0f7a4 a0 r) : Met l yJ6_bitCount_0f7a4 wsJ6_bitCount_0f7a4 { frames := 0, cells := 0, slots := 0, locals := 0 } (va_Pc [.int a0] (rpS (dC, dI) vwCl [(cI, .int)] ([]))) (QcRead r) 0 0 (fun _ => False) := by
  refine ro_met (cc := cJ6_bitCount_0f7a4) (maxL := 1) (ret := (some .int)) (by decide) rfl (Nat.le_of_ble_eq_true rfl) ?_
  intro p e s m below meth c hx hb hml hr hlk hts hown hP hK hN ls hl
  have hl : lv_has ls 1 [(0, .int a0)] := hl
  unfold P_J6_bitCount_0f7a4 at hp
  refine lv_iload_n hx hb dJ6_bitCount_0f7a4_0 rfl (lv_at hl 0 rfl) ?_
  refine lv_iload_n hx hb dJ6_bitCount_0f7a4_1 rfl (lv_at hl 0 rfl) ?_
  refine lv_iconst (v := 1) hx hb dJ6_bitCount_0f7a4_2 (by decide) ?_
  refine lv_iushr hx hb dJ6_bitCount_0f7a4_3 rfl ?_
  refine lv_ldcw hx hb hown (hts _ kJ6_bitCount_0f7a4_0) dJ6_bitCount_0f7a4_4 ?_
  refine lv_iand hx hb dJ6_bitCount_0f7a4_7 ?_
  refine lv_isub hx hb dJ6_bitCount_0f7a4_8 ?_
  refine lv_topi (fun y1 ey1 => ?_)
  have hp := hp y1 ey1
  refine lv_istore_n (lv' := [(0, .int y1)]) hx hb dJ6_bitCount_0f7a4_9 rfl hl (by decide) rfl (fun ls hl => ?_)
  refine lv_iload_n hx hb dJ6_bitCount_0f7a4_10 rfl (lv_at hl 0 rfl) ?_
  refine lv_ldcw hx hb hown (hts _ kJ6_bitCount_0f7a4_1) dJ6_bitCount_0f7a4_11 ?_
  refine lv_iand hx hb dJ6_bitCount_0f7a4_14 ?_
  refine lv_iload_n hx hb dJ6_bitCount_0f7a4_15 rfl (lv_at hl 0 rfl) ?_
  refine lv_iconst (v := 2) hx hb dJ6_bitCount_0f7a4_16 (by decide) ?_
  refine lv_iushr hx hb dJ6_bitCount_0f7a4_17 rfl ?_
  refine lv_ldcw hx hb hown (hts _ kJ6_bitCount_0f7a4_1) dJ6_bitCount_0f7a4_18 ?_
  refine lv_iand hx hb dJ6_bitCount_0f7a4_21 ?_
  refine lv_iadd hx hb dJ6_bitCount_0f7a4_22 ?_
  refine lv_topi (fun y2 ey2 => ?_)
  have hp := hp y2 ey2
  refine lv_istore_n (lv' := [(0, .int y2)]) hx hb dJ6_bitCount_0f7a4_23 rfl hl (by decide) rfl (fun ls hl => ?_)
  refine lv_iload_n hx hb dJ6_bitCount_0f7a4_24 rfl (lv_at hl 0 rfl) ?_
  refine lv_iload_n hx hb dJ6_bitCount_0f7a4_25 rfl (lv_at hl 0 rfl) ?_
  refine lv_iconst (v := 4) hx hb dJ6_bitCount_0f7a4_26 (by decide) ?_
  refine lv_iushr hx hb dJ6_bitCount_0f7a4_27 rfl ?_
  refine lv_iadd hx hb dJ6_bitCount_0f7a4_28 ?_
  refine lv_ldcw hx hb hown (hts _ kJ6_bitCount_0f7a4_2) dJ6_bitCount_0f7a4_29 ?_
  refine lv_iand hx hb dJ6_bitCount_0f7a4_32 ?_
  refine lv_topi (fun y3 ey3 => ?_)
  have hp := hp y3 ey3
  refine lv_istore_n (lv' := [(0, .int y3)]) hx hb dJ6_bitCount_0f7a4_33 rfl hl (by decide) rfl (fun ls hl => ?_)
  refine lv_iload_n hx hb dJ6_bitCount_0f7a4_34 rfl (lv_at hl 0 rfl) ?_
  refine lv_iload_n hx hb dJ6_bitCount_0f7a4_35 rfl (lv_at hl 0 rfl) ?_
  refine lv_bipush (v := 8) hx hb dJ6_bitCount_0f7a4_36 (by decide) ?_
  refine lv_iushr hx hb dJ6_bitCount_0f7a4_38 rfl ?_
  refine lv_iadd hx hb dJ6_bitCount_0f7a4_39 ?_
  refine lv_istore_n (lv' := [(0, .int (y3 + ((y3.toUInt32 >>> ((8 : Int32).toUInt32 &&& Int32.toUInt32 31)).toInt32)))]) hx hb dJ6_bitCount_0f7a4_40 rfl hl (by decide) rfl (fun ls hl => ?_)
  refine lv_iload_n hx hb dJ6_bitCount_0f7a4_41 rfl (lv_at hl 0 rfl) ?_
  refine lv_iload_n hx hb dJ6_bitCount_0f7a4_42 rfl (lv_at hl 0 rfl) ?_
  refine lv_bipush (v := 16) hx hb dJ6_bitCount_0f7a4_43 (by decide) ?_
  refine lv_iushr hx hb dJ6_bitCount_0f7a4_45 rfl ?_
  refine lv_iadd hx hb dJ6_bitCount_0f7a4_46 ?_
  refine lv_topi (fun y4 ey4 => ?_)
  have hp := hp y4 ey4
  refine lv_istore_n (lv' := [(0, .int y4)]) hx hb dJ6_bitCount_0f7a4_47 rfl hl (by decide) rfl (fun ls hl => ?_)
  refine lv_iload_n hx hb dJ6_bitCount_0f7a4_48 rfl (lv_at hl 0 rfl) ?_
  refine lv_bipush (v := 63) hx hb dJ6_bitCount_0f7a4_49 (by decide) ?_
  refine lv_iand hx hb dJ6_bitCount_0f7a4_51 ?_
  exact W.iret hx hb hr (fun t ht _ => ⟨by rw [hp], ht⟩) (fun _ h => nomatch h) dJ6_bitCount_0f7a4_52
end
section
/-! THROWS: what a start must hold for them, the three checks, their calls -/
abbrev E_i : String := "java/lang/IndexOutOfBoundsException"
abbrev E_a : String := "java/lang/IllegalArgumentException"
abbrev E_s : String := "java/lang/IllegalStateException"
abbrev x_d1 : Cond := .declares (Bundle.initS "java/lang/RuntimeException")
abbrev x_d2 : Cond := .declares (Bundle.initS "java/lang/Exception")
abbrev x_d3 : Cond := .declares (Bundle.initS Bundle.tN)
abbrev xnames : List String := ["java/lang/RuntimeException", "java/lang/Exception"]
def xeS (U : State) : Prop := (∃ sa, vk_R RX4 194 "there is none of this number" sa U) ∧ (∃ sa, vk_R RX4 201 "an argument is out of its range" sa U) ∧ (∃ sa, vk_R RX4 206 "not as things stand" sa U) ∧ va_Nw (.castable E_i E_i) U ∧ va_Nw (.castable E_a E_a) U ∧ va_Nw (.castable E_s E_s) U ∧ va_Nc E_s E_a U ∧ va_Nc E_s E_i U ∧ va_Nc E_a E_i U ∧ va_Nw x_d1 U ∧ va_Nw x_d2 U ∧ va_Nw x_d3 U
def xeH (A : Nat → Prop) (U : State) (H : Heap) : Prop := vx_Zq Bundle.tN "UNASSIGNED_STACK" Bundle.steD A U H ∧ vx_Zq Bundle.tN "SUPPRESSED_SENTINEL" Bundle.listD A U H
theorem xeS_warm {s U : State} (hW : s.WarmedH U.vm) (h : xeS s) : xeS U := by
  obtain ⟨⟨a, ha⟩, ⟨b, hb⟩, ⟨c, hc⟩, h1, h2, h3, h4, h5, h6, d1, d2, d3⟩ := h
  exact ⟨⟨a, vk_R.warm hW ha⟩, ⟨b, vk_R.warm hW hb⟩, ⟨c, vk_R.warm hW hc⟩, va_Nw.warmC hW h1, va_Nw.warmC hW h2, va_Nw.warmC hW h3, va_Nc.moved hW.alike h4, va_Nc.moved hW.alike h5, va_Nc.moved hW.alike h6, va_Nw.warmD hW d1, va_Nw.warmD hW d2, va_Nw.warmD hW d3⟩
theorem xeS_same {u U : State} (hv : u.vm = U.vm) (h : xeS u) : xeS U := by
  obtain ⟨⟨a, ha⟩, ⟨b, hb⟩, ⟨c, hc⟩, h1, h2, h3, h4, h5, h6, d1, d2, d3⟩ := h
  have hal : u.vm.Alike U.vm := by rw [hv]; exact Vm.Alike.refl _
  exact ⟨⟨a, vk_R.same hv.symm ha⟩, ⟨b, vk_R.same hv.symm hb⟩, ⟨c, vk_R.same hv.symm hc⟩, va_Nw.same rfl hv h1, va_Nw.same rfl hv h2, va_Nw.same rfl hv h3, va_Nc.moved hal h4, va_Nc.moved hal h5, va_Nc.moved hal h6, va_Nw.same rfl hv d1, va_Nw.same rfl hv d2, va_Nw.same rfl hv d3⟩
theorem xeH.moved {A : Nat → Prop} {u U : State} {H : Heap} (hvm : u.vm.Alike U.vm) (h : xeH A u H) : xeH A U H := ⟨vx_Zq.moved hvm h.1, vx_Zq.moved hvm h.2⟩
theorem xeH.kept {A : Nat → Prop} {U : State} {H H1 : Heap} (h : xeH A U H) (hq : ∀ a : Nat, a < H.size → ¬ A a → H1[a]? = H[a]?) : xeH A U H1 := ⟨h.1.kept hq, h.2.kept hq⟩
theorem xeH.narrow {A B : Nat → Prop} {U : State} {H : Heap} (h : xeH A U H) (hAB : ∀ q, B q → A q) : xeH B U H := ⟨h.1.narrow hAB, h.2.narrow hAB⟩
abbrev cpS (sz : Nat) (U : State) : Prop := U.heap.size = sz ∧ xeS U ∧ xeH (fun q => sz ≤ q) U U.heap
theorem cp_blind {av : List Value} {sz : Nat} : FrameBlind (va_Pc av (cpS sz)) :=
  fun a U g mk q => ⟨q.1, q.2.1, xeS_same (u := U) (U := U.calling g mk a) rfl q.2.2.1, xeH.moved (u := U) (U := U.calling g mk a) (Vm.Alike.refl U.vm) q.2.2.2⟩
abbrev tpS (D : va_G) (cl : List vw_C) (tys : List (ClassId × FieldType)) (ws : va_W) (sz : Nat) (U : State) : Prop := wpS D cl tys ws sz U ∧ xeS U ∧ xeH (va_A ws sz) U U.heap
theorem tp_blind {av : List Value} {D : va_G} {cl : List vw_C} {tys : List (ClassId × FieldType)} {ws : va_W} {sz : Nat} : FrameBlind (va_Pc av (tpS D cl tys ws sz)) :=
  fun a U g mk q => ⟨q.1, (wp_blind (av := av) a U g mk ⟨q.1, q.2.1⟩).2, xeS_same (u := U) (U := U.calling g mk a) rfl q.2.2.1, xeH.moved (u := U) (U := U.calling g mk a) (Vm.Alike.refl U.vm) q.2.2.2⟩
theorem xat_i : (vx_atS RX4 196 E_i xnames).filter (fun w => !goodWord w) = [x_d1, x_d2, x_d3, .castable E_i E_i] := by decide +kernel
theorem xat_a : (vx_atS RX4 203 E_a xnames).filter (fun w => !goodWord w) = [x_d1, x_d2, x_d3, .castable E_a E_a] := by decide +kernel
theorem xat_s : (vx_atS RX4 208 E_s xnames).filter (fun w => !goodWord w) = [x_d1, x_d2, x_d3, .castable E_s E_s] := by decide +kernel
theorem xfi_i : ∀ w ∈ (vx_atS RX4 196 E_i xnames).filter goodWord, w ∈ wsX4_checkIndex := fun _ h => List.mem_cons_of_mem _ (List.mem_append_right _ h)
theorem xfi_a : ∀ w ∈ (vx_atS RX4 203 E_a xnames).filter goodWord, w ∈ wsX4_checkRange := fun _ h => List.mem_cons_of_mem _ (List.mem_append_right _ h)
theorem xfi_s : ∀ w ∈ (vx_atS RX4 208 E_s xnames).filter goodWord, w ∈ wsX4_checkState := fun _ h => List.mem_cons_of_mem _ (List.mem_append_right _ h)
theorem xg_i : ∀ w ∈ Cond.classLink RX4 192 E_i :: Cond.initialized E_i :: vx_atS RX4 196 E_i xnames, vx_ot w = true := by decide +kernel
theorem xg_a : ∀ w ∈ Cond.classLink RX4 199 E_a :: Cond.initialized E_a :: vx_atS RX4 203 E_a xnames, vx_ot w = true := by decide +kernel
theorem xg_s : ∀ w ∈ Cond.classLink RX4 204 E_s :: Cond.initialized E_s :: vx_atS RX4 208 E_s xnames, vx_ot w = true := by decide +kernel
theorem xk_i1 : (.classLink RX4 192 E_i : Cond) ∈ wsX4_checkIndex := by decide +kernel
theorem xk_i2 : (.initialized E_i : Cond) ∈ wsX4_checkIndex := by decide +kernel
theorem xk_a1 : (.classLink RX4 199 E_a : Cond) ∈ wsX4_checkRange := by decide +kernel
theorem xk_a2 : (.initialized E_a : Cond) ∈ wsX4_checkRange := by decide +kernel
theorem xk_s1 : (.classLink RX4 204 E_s : Cond) ∈ wsX4_checkState := by decide +kernel
theorem xk_s2 : (.initialized E_s : Cond) ∈ wsX4_checkState := by decide +kernel
theorem xn_fit : ∀ n ∈ xnames, Bundle.fit n = true := by decide +kernel
theorem xf_i : Bundle.fit E_i = true := by decide +kernel
theorem xf_a : Bundle.fit E_a = true := by decide +kernel
theorem xf_s : Bundle.fit E_s = true := by decide +kernel
theorem va_F_new {s t : State} (h1 : s.heap.size ≤ t.heap.size) (h2 : ∀ q : Nat, q < s.heap.size → t.heap[q]? = s.heap[q]?) : va_F (fun q => s.heap.size ≤ q) s t := ⟨h1, fun q h _ => h2 q h⟩
/-- the prelude of a check -/
theorem ck_met {l : Launch} {y : MethodName} {ws ws' : List Cond} {rm : Room} {cc : ByteArray} {maxL : Nat} {av : List Value} {sz : Nat} {ok : Prop} {E0 : String}
    (hy : plainName y.cls = true) (hw : ws = Cond.code y cc maxL none :: ws') (hn : (lg_sl av).length ≤ maxL)
    (body : ∀ (p : Program) (e : Env) (s : State) (m : MethodId) (below : List Frame) (meth : Method) (c : Code), p.tables.exec = Jvm.exec → c.code = cc → c.maxLocals = maxL → meth.sig.returnType = none → meth.locks = false → (∀ x ∈ c.exceptionTable.toList, False) → (∀ w ∈ ws, w.before av.toArray s = true) → s.vm.findClass y.cls = some m.cls →
      xeS s → xeH (fun q => s.heap.size ≤ q) s s.heap → ∀ ls : Array Slot, lv_has ls maxL (lv_args 0 av) → W p l e rm s m av.toArray below meth c s.heap [] 0 0 (vx_MQ below (va_Qv (fun _ : Unit => ok) (fun _ _ => True) (fun q => s.heap.size ≤ q)) (vx_X (fun _ : Unit => ¬ ok) (fun E _ _ => E = E0) (fun q => s.heap.size ≤ q)) av.toArray s 1 6 (fun q => s.heap.size ≤ q)) (F0 m 0 ls [])) :
    vx_Met l y ws rm (va_Pc av (cpS sz)) (va_Qv (fun _ : Unit => ok) (fun _ _ => True) (fun q => sz ≤ q)) (vx_X (fun _ : Unit => ¬ ok) (fun E _ _ => E = E0) (fun q => sz ≤ q)) 1 6 (fun q => sz ≤ q) := by
  refine vx_ofW (cc := cc) (maxL := maxL) (ret := none) hy hw ?_
  intro p e s m args below meth c s₁ B hml het hv
  obtain ⟨rfl, hsz, hxs, hxh⟩ := hv
  have hl := lv_entry av (n := maxL) hn
  rw [lg_entry_eq]
  subst hsz
  exact body p e s m below meth c B.exec B.bytes hml B.returns B.notSynchronized het (atoms_spec (ws := ws) B.pre) (findClass_of_methodNamed B.named) hxs hxh _ hl
set_option maxRecDepth 100000 in
set_option maxHeartbeats 4000000 in
theorem c_X4_checkIndex (l : Launch) (hfl : l.stackTraces = false) (a0 a1 : Int32) (sz : Nat) : vx_Met l yX4_checkIndex wsX4_checkIndex { frames := 6, cells := 1, slots := 6, locals := 82 } (va_Pc [.int a0, .int a1] (cpS sz)) (va_Qv (fun _ : Unit => ¬ a0 < 0 ∧ a0 < a1) (fun _ _ => True) (fun q => sz ≤ q)) (vx_X (fun _ : Unit => ¬ (¬ a0 < 0 ∧ a0 < a1)) (fun E _ _ => E = E_i) (fun q => sz ≤ q)) 1 6 (fun q => sz ≤ q) := by
  refine ck_met (cc := cX4_checkIndex) (maxL := 2) (by decide) rfl (Nat.le_of_ble_eq_true rfl) ?_
  intro p e s m below meth c hx hb hml hr hlk het hts hown hxs hxh ls hl
  have hl : lv_has ls 2 [(0, .int a0), (1, .int a1)] := hl
  obtain ⟨⟨sa, hsa⟩, -, -, hca, -, -, -, -, -, d1, d2, d3⟩ := hxs
  have hS : va_S (fun q => s.heap.size ≤ q) s.heap s.heap [] := va_S.rf
  have hat : ∀ w ∈ vx_atS RX4 196 E_i xnames, w.before [Value.int a0, .int a1].toArray s = true := vx_hat (B := [x_d1, x_d2, x_d3, .castable E_i E_i]) (fun w h => hts w (xfi_i w h)) (fun w h => by rw [xat_i] at h; exact h) (vx_c (va_Nw.use rfl d1) (vx_c (va_Nw.use rfl d2) (vx_c (va_Nw.use rfl d3) (vx_c (va_Nw.use rfl hca) vx_n))))
  have thr : ¬ (¬ a0 < 0 ∧ a0 < a1) → ∀ ls : Array Slot, lv_has ls 2 [(0, .int a0), (1, .int a1)] → W p l e { frames := 6, cells := 1, slots := 6, locals := 82 } s m [Value.int a0, .int a1].toArray below meth c s.heap [] 0 0 (vx_MQ below (va_Qv (fun _ : Unit => ¬ a0 < 0 ∧ a0 < a1) (fun _ _ => True) (fun q => s.heap.size ≤ q)) (vx_X (fun _ : Unit => ¬ (¬ a0 < 0 ∧ a0 < a1)) (fun E _ _ => E = E_i) (fun q => s.heap.size ≤ q)) [Value.int a0, .int a1].toArray s 1 6 (fun q => s.heap.size ≤ q)) (F0 m 9 ls []) := by
    intro hno ls hl
    exact vx_throwS (A := fun q => s.heap.size ≤ q) hx hb hfl hown xf_i xn_fit (hts _ xk_i1) (hts _ xk_i2) hsa hat xg_i hxh.1 hxh.2 hS (hl.1.trans hml.symm) dX4_checkIndex_9 dX4_checkIndex_12 dX4_checkIndex_13 dX4_checkIndex_15 dX4_checkIndex_18 (fun x h => (het x h).elim) (Nat.le_of_ble_eq_true rfl) (Nat.le_of_ble_eq_true rfl) (Nat.le_refl _) (Nat.le_refl _) hlk (fun t _ h1 h2 => ⟨(), hno, rfl, va_F_new h1 h2⟩) (fun _ h => nomatch h) (Nat.le_refl _) (Nat.le_refl _)
  refine lv_iload_n hx hb dX4_checkIndex_0 rfl (lv_at hl 0 rfl) ?_
  refine lv_if_lt (tgt := 9) hx hb dX4_checkIndex_1 (by decide) (fun c1 => ?_) (fun c1 => ?_)
  · exact thr (fun h => h.1 c1) ls hl
  · refine lv_iload_n hx hb dX4_checkIndex_4 rfl (lv_at hl 0 rfl) ?_
    refine lv_iload_n hx hb dX4_checkIndex_5 rfl (lv_at hl 1 rfl) ?_
    refine lv_icmp_lt (tgt := 19) hx hb dX4_checkIndex_6 (by decide) (fun c2 => ?_) (fun c2 => ?_)
    · refine vx_ret (W.widen (k := 1) (n := 6) (Nat.zero_le _) (Nat.zero_le _) ?_)
      exact W.vret hx hb hr (fun t ht _ => ⟨⟨(), rfl, ⟨c1, c2⟩, trivial⟩, hS.F ht⟩) hS.2.2 dX4_checkIndex_19
    · exact thr (fun h => c2 h.2) ls hl
set_option maxRecDepth 100000 in
set_option maxHeartbeats 4000000 in
theorem c_X4_checkRange (l : Launch) (hfl : l.stackTraces = false) (a0 a1 a2 : Int32) (sz : Nat) : vx_Met l yX4_checkRange wsX4_checkRange { frames := 6, cells := 1, slots := 6, locals := 82 } (va_Pc [.int a0, .int a1, .int a2] (cpS sz)) (va_Qv (fun _ : Unit => ¬ a0 < a1 ∧ a0 ≤ a2) (fun _ _ => True) (fun q => sz ≤ q)) (vx_X (fun _ : Unit => ¬ (¬ a0 < a1 ∧ a0 ≤ a2)) (fun E _ _ => E = E_a) (fun q => sz ≤ q)) 1 6 (fun q => sz ≤ q) := by
  refine ck_met (cc := cX4_checkRange) (maxL := 3) (by decide) rfl (Nat.le_of_ble_eq_true rfl) ?_
  intro p e s m below meth c hx hb hml hr hlk het hts hown hxs hxh ls hl
  have hl : lv_has ls 3 [(0, .int a0), (1, .int a1), (2, .int a2)] := hl
  obtain ⟨-, ⟨sa, hsa⟩, -, -, hca, -, -, -, -, d1, d2, d3⟩ := hxs
  have hS : va_S (fun q => s.heap.size ≤ q) s.heap s.heap [] := va_S.rf
  have hat : ∀ w ∈ vx_atS RX4 203 E_a xnames, w.before [Value.int a0, .int a1, .int a2].toArray s = true := vx_hat (B := [x_d1, x_d2, x_d3, .castable E_a E_a]) (fun w h => hts w (xfi_a w h)) (fun w h => by rw [xat_a] at h; exact h) (vx_c (va_Nw.use rfl d1) (vx_c (va_Nw.use rfl d2) (vx_c (va_Nw.use rfl d3) (vx_c (va_Nw.use rfl hca) vx_n))))
  have thr : ¬ (¬ a0 < a1 ∧ a0 ≤ a2) → ∀ ls : Array Slot, lv_has ls 3 [(0, .int a0), (1, .int a1), (2, .int a2)] → W p l e { frames := 6, cells := 1, slots := 6, locals := 82 } s m [Value.int a0, .int a1, .int a2].toArray below meth c s.heap [] 0 0 (vx_MQ below (va_Qv (fun _ : Unit => ¬ a0 < a1 ∧ a0 ≤ a2) (fun _ _ => True) (fun q => s.heap.size ≤ q)) (vx_X (fun _ : Unit => ¬ (¬ a0 < a1 ∧ a0 ≤ a2)) (fun E _ _ => E = E_a) (fun q => s.heap.size ≤ q)) [Value.int a0, .int a1, .int a2].toArray s 1 6 (fun q => s.heap.size ≤ q)) (F0 m 10 ls []) := by
    intro hno ls hl
    exact vx_throwS (A := fun q => s.heap.size ≤ q) hx hb hfl hown xf_a xn_fit (hts _ xk_a1) (hts _ xk_a2) hsa hat xg_a hxh.1 hxh.2 hS (hl.1.trans hml.symm) dX4_checkRange_10 dX4_checkRange_13 dX4_checkRange_14 dX4_checkRange_16 dX4_checkRange_19 (fun x h => (het x h).elim) (Nat.le_of_ble_eq_true rfl) (Nat.le_of_ble_eq_true rfl) (Nat.le_refl _) (Nat.le_refl _) hlk (fun t _ h1 h2 => ⟨(), hno, rfl, va_F_new h1 h2⟩) (fun _ h => nomatch h) (Nat.le_refl _) (Nat.le_refl _)
  refine lv_iload_n hx hb dX4_checkRange_0 rfl (lv_at hl 0 rfl) ?_
  refine lv_iload_n hx hb dX4_checkRange_1 rfl (lv_at hl 1 rfl) ?_
  refine lv_icmp_lt (tgt := 10) hx hb dX4_checkRange_2 (by decide) (fun c1 => ?_) (fun c1 => ?_)
  · exact thr (fun h => h.1 c1) ls hl
  · refine lv_iload_n hx hb dX4_checkRange_5 rfl (lv_at hl 0 rfl) ?_
    refine lv_iload_n hx hb dX4_checkRange_6 rfl (lv_at hl 2 rfl) ?_
    refine lv_icmp_le (tgt := 20) hx hb dX4_checkRange_7 (by decide) (fun c2 => ?_) (fun c2 => ?_)
    · refine vx_ret (W.widen (k := 1) (n := 6) (Nat.zero_le _) (Nat.zero_le _) ?_)
      exact W.vret hx hb hr (fun t ht _ => ⟨⟨(), rfl, ⟨c1, c2⟩, trivial⟩, hS.F ht⟩) hS.2.2 dX4_checkRange_20
    · exact thr (fun h => c2 h.2) ls hl
set_option maxRecDepth 100000 in
set_option maxHeartbeats 4000000 in
theorem c_X4_checkState (l : Launch) (hfl : l.stackTraces = false) (a0 : Int32) (sz : Nat) : vx_Met l yX4_checkState wsX4_checkState { frames := 6, cells := 1, slots := 6, locals := 82 } (va_Pc [.int a0] (cpS sz)) (va_Qv (fun _ : Unit => ¬ a0 = 0) (fun _ _ => True) (fun q => sz ≤ q)) (vx_X (fun _ : Unit => ¬ (¬ a0 = 0)) (fun E _ _ => E = E_s) (fun q => sz ≤ q)) 1 6 (fun q => sz ≤ q) := by
  refine ck_met (cc := cX4_checkState) (maxL := 1) (by decide) rfl (Nat.le_of_ble_eq_true rfl) ?_
  intro p e s m below meth c hx hb hml hr hlk het hts hown hxs hxh ls hl
  have hl : lv_has ls 1 [(0, .int a0)] := hl
  obtain ⟨-, -, ⟨sa, hsa⟩, -, -, hca, -, -, -, d1, d2, d3⟩ := hxs
  have hS : va_S (fun q => s.heap.size ≤ q) s.heap s.heap [] := va_S.rf
  have hat : ∀ w ∈ vx_atS RX4 208 E_s xnames, w.before [Value.int a0].toArray s = true := vx_hat (B := [x_d1, x_d2, x_d3, .castable E_s E_s]) (fun w h => hts w (xfi_s w h)) (fun w h => by rw [xat_s] at h; exact h) (vx_c (va_Nw.use rfl d1) (vx_c (va_Nw.use rfl d2) (vx_c (va_Nw.use rfl d3) (vx_c (va_Nw.use rfl hca) vx_n))))
  refine lv_iload_n hx hb dX4_checkState_0 rfl (lv_at hl 0 rfl) ?_
  refine lv_if_ne (tgt := 14) hx hb dX4_checkState_1 (by decide) (fun c1 => ?_) (fun c1 => ?_)
  · refine vx_ret (W.widen (k := 1) (n := 6) (Nat.zero_le _) (Nat.zero_le _) ?_)
    exact W.vret hx hb hr (fun t ht _ => ⟨⟨(), rfl, c1, trivial⟩, hS.F ht⟩) hS.2.2 dX4_checkState_14
  · exact vx_throwS (A := fun q => s.heap.size ≤ q) hx hb hfl hown xf_s xn_fit (hts _ xk_s1) (hts _ xk_s2) hsa hat xg_s hxh.1 hxh.2 hS (hl.1.trans hml.symm) dX4_checkState_4 dX4_checkState_7 dX4_checkState_8 dX4_checkState_10 dX4_checkState_13 (fun x h => (het x h).elim) (Nat.le_of_ble_eq_true rfl) (Nat.le_of_ble_eq_true rfl) (Nat.le_refl _) (Nat.le_refl _) hlk (fun t _ h1 h2 => ⟨(), fun h => h c1, rfl, va_F_new h1 h2⟩) (fun _ h => nomatch h) (Nat.le_refl _) (Nat.le_refl _)
section THS
variable {p : Program} {l : Launch} {e : Env} {R : Room} {s : State} {m : MethodId} {args : Array Value} {below : List Frame} {meth : Method} {c : Code} {H : Heap} {locs : List Loc} {cells slots : Nat}
variable {pc : Nat} {ls : Array Slot} {rest st0 : List Value} {y : MethodName} {bytes cc : ByteArray} {maxL nL n index : Nat} {ret : Option FieldType} {ws : List Cond} {rm : Room} {Ts : List Cond} {own : String} {As : List Value} {D : va_G} {cl : List vw_C} {wc : va_W} {A : Nat → Prop} {ok : Prop} {E0 : String}
variable {Qc : Array Value → State → Outcome → State → Prop} {XC : String → State → State → Prop} {mc ms : Nat}
/-- a check called by a method without a table of its own: it goes on, or the throw leaves the method -/
theorem tx_S (S : CallFix p m c cc nL s args Ts own) (hM : vx_Met l y ws rm (va_Pc As (cpS H.size)) (va_Qv (fun _ : Unit => ok) (fun _ _ => True) (fun q => H.size ≤ q)) (vx_X (fun _ : Unit => ¬ ok) (fun E _ _ => E = E0) (fun q => H.size ≤ q)) 1 6 (fun q => H.size ≤ q))
    (cw : CallB R s args own index y bytes maxL ret ws rm 1 6 n ∧ (Cond.static y).before args s = true) (hP : va_P D cl wc H) (hS : va_S A s.heap H locs) (hA : ∀ q : Nat, s.heap.size ≤ q → A q) (hXS : xeS s) (hXH : xeH A s s.heap) (het : ∀ x ∈ c.exceptionTable.toList, False) (hlk : meth.locks = false)
    (hst : st0 = As.reverse ++ rest) (hn : As.length = n) (hsize : ls.size = nL) (hW : (rest.map fun v => v.category).sum ≤ 8) (hf : cells + 1 ≤ R.cells ∧ slots + 6 ≤ R.slots) (hf2 : cells + 1 ≤ mc ∧ slots + 6 ≤ ms) (hdg : decode cc pc = .ok (.invokestatic index, 3))
    (kx : ¬ ok → ∀ t : State, va_P D cl wc t.heap → va_F A s t → XC E0 s t)
    (kk : ok → ∀ (H1 : Heap) (locs1 : List Loc), va_P D cl wc H1 → va_S A s.heap H1 locs1 → W p l e R s m args below meth c H1 locs1 (cells + 1) (slots + 6) (vx_MQ below Qc XC args s mc ms A) (F0 m (pc + 3) ls rest)) : W p l e R s m args below meth c H locs cells slots (vx_MQ below Qc XC args s mc ms A) (F0 m pc ls st0) := by
  have hle : ∀ q : Nat, H.size ≤ q → A q := fun q h => hA q (Nat.le_trans hS.1 h)
  have hkeep : ∀ H1 : Heap, (∀ q : Nat, q < H.size → ¬ H.size ≤ q → H1[q]? = H[q]?) → va_P D cl wc H1 := fun H1 hk => hP.kept (fun k q hq => hk q.1 (hP k q hq).lt (Nat.not_le.mpr (hP k q hq).lt))
  refine vx_callv (vx_runS (As := As) (rest := rest) S hM cw ⟨cp_blind, fun U hU hW => ⟨rfl, by rw [hU], xeS_warm hW hXS, by rw [hU]; exact xeH.moved hW.alike ((hXH.kept hS.2.1).narrow hle)⟩⟩ rfl hn hsize hst (lv_room hW) hdg hf) hS (fun q _ h => hle q h) hle (fun q _ h => hle q h) ?_ ?_
  · intro E ce q9 u t H1 locs1 ht hvm hpx hbx hz hk1 hS1 hce hcv hcl
    subst hbx
    refine vx_outP (own := own) S.2.2.2.1 hlk (fun z hz => (het z hz).elim) hce hcv hcl (fun t' ht' _ => kx hpx t' (by rw [ht']; exact hkeep H1 hk1) (by exact hS1.F ht')) hS1.2.2 hf2.1 hf2.2
  · intro u t H1 locs1 ht hvm hok hB hz hk1 hS1
    exact kk hok H1 locs1 (hkeep H1 hk1) hS1
end THS
/-- the prelude of a method that throws -/
theorem tx_met {l : Launch} {y : MethodName} {ws ws' : List Cond} {rm : Room} {cc : ByteArray} {maxL : Nat} {ret : Option FieldType} {D : va_G} {cl : List vw_C} {tys : List (ClassId × FieldType)} {wc : va_W} {av : List Value} {sz mc ms : Nat} (Qf : (Nat → Prop) → Array Value → State → Outcome → State → Prop) (Xf : (Nat → Prop) → String → State → State → Prop)
    (hy : plainName y.cls = true) (hw : ws = Cond.code y cc maxL ret :: ws') (hn : (lg_sl av).length ≤ maxL)
    (body : ∀ (p : Program) (e : Env) (s : State) (m : MethodId) (below : List Frame) (meth : Method) (c : Code) (A : Nat → Prop), p.tables.exec = Jvm.exec → c.code = cc → c.maxLocals = maxL → meth.sig.returnType = ret → meth.locks = false → (∀ x ∈ c.exceptionTable.toList, False) → (∀ w ∈ ws, w.before av.toArray s = true) → s.vm.findClass y.cls = some m.cls →
      va_P D cl wc s.heap → va_K D cl tys s → nw s → va_D A wc → (∀ q : Nat, s.heap.size ≤ q → A q) → xeS s → xeH A s s.heap → ∀ ls : Array Slot, lv_has ls maxL (lv_args 0 av) → W p l e rm s m av.toArray below meth c s.heap [] 0 0 (vx_MQ below (Qf A) (Xf A) av.toArray s mc ms A) (F0 m 0 ls [])) :
    vx_Met l y ws rm (va_Pc av (tpS D cl tys wc sz)) (Qf (va_A wc sz)) (Xf (va_A wc sz)) mc ms (va_A wc sz) := by
  refine vx_ofW (cc := cc) (maxL := maxL) (ret := ret) hy hw ?_
  intro p e s m args below meth c s₁ B hml het hv
  obtain ⟨rfl, ⟨hsz, hP, hK, hN, hD⟩, hxs, hxh⟩ := hv
  have hl := lv_entry av (n := maxL) hn
  rw [lg_entry_eq]
  subst hsz
  exact body p e s m below meth c _ B.exec B.bytes hml B.returns B.notSynchronized het (atoms_spec (ws := ws) B.pre) (findClass_of_methodNamed B.named) hP hK hN hD.self (fun q h => Or.inr h) hxs hxh _ hl
end
