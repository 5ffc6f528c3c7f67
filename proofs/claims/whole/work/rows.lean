section
-- ===== PART A: goes FIRST, ahead of the names: the tables' words, and 'selects' of the private methods out of them =====
/-- a private method of a class that the tables say can be made, by its rows of tables_1 -/
def lw_okq (q : MethodName × Nat) : Prop := (q.1.cls ≠ "java/lang/invoke/MethodHandle" ∧ q.1.cls ≠ "java/lang/invoke/VarHandle") ∧ Cond.instantiable q.1.cls q.2 ∈ tables_1 ∧ Cond.privateMethod q.1 ∈ tables_1 ∧ Cond.instanceMethod q.1 ∈ tables_1
theorem lw_p0 : lw_okq (⟨"BondDesk", "tell", "(I)J"⟩, 8) := ⟨⟨by decide +kernel, by decide +kernel⟩, List.mem_of_getElem? (i := 16) (by decide +kernel), List.mem_of_getElem? (i := 109) (by decide +kernel), List.mem_of_getElem? (i := 110) (by decide +kernel)⟩
theorem lw_p1 : lw_okq (⟨"BondDesk", "bondsThere", "()I"⟩, 8) := ⟨⟨by decide +kernel, by decide +kernel⟩, List.mem_of_getElem? (i := 16) (by decide +kernel), List.mem_of_getElem? (i := 113) (by decide +kernel), List.mem_of_getElem? (i := 114) (by decide +kernel)⟩
theorem lw_p2 : lw_okq (⟨"BondDesk", "piecesHeld", "()I"⟩, 8) := ⟨⟨by decide +kernel, by decide +kernel⟩, List.mem_of_getElem? (i := 16) (by decide +kernel), List.mem_of_getElem? (i := 121) (by decide +kernel), List.mem_of_getElem? (i := 122) (by decide +kernel)⟩
theorem lw_p3 : lw_okq (⟨"BondDesk", "worthHeld", "()J"⟩, 8) := ⟨⟨by decide +kernel, by decide +kernel⟩, List.mem_of_getElem? (i := 16) (by decide +kernel), List.mem_of_getElem? (i := 125) (by decide +kernel), List.mem_of_getElem? (i := 126) (by decide +kernel)⟩
theorem lw_p4 : lw_okq (⟨"BondDesk$Bond", "paymentOn", "(II)J"⟩, 9) := ⟨⟨by decide +kernel, by decide +kernel⟩, List.mem_of_getElem? (i := 143) (by decide +kernel), List.mem_of_getElem? (i := 141) (by decide +kernel), List.mem_of_getElem? (i := 142) (by decide +kernel)⟩
theorem lw_p5 : lw_okq (⟨"BondDesk$Bond", "isEnd", "(I)Z"⟩, 9) := ⟨⟨by decide +kernel, by decide +kernel⟩, List.mem_of_getElem? (i := 143) (by decide +kernel), List.mem_of_getElem? (i := 151) (by decide +kernel), List.mem_of_getElem? (i := 152) (by decide +kernel)⟩
theorem lw_p6 : lw_okq (⟨"BondDesk$Bond", "sunkOn", "(II)I"⟩, 9) := ⟨⟨by decide +kernel, by decide +kernel⟩, List.mem_of_getElem? (i := 143) (by decide +kernel), List.mem_of_getElem? (i := 155) (by decide +kernel), List.mem_of_getElem? (i := 156) (by decide +kernel)⟩
theorem lw_p7 : lw_okq (⟨"BondDesk$Schedule", "yearOfPeriod", "(I)J"⟩, 9) := ⟨⟨by decide +kernel, by decide +kernel⟩, List.mem_of_getElem? (i := 184) (by decide +kernel), List.mem_of_getElem? (i := 182) (by decide +kernel), List.mem_of_getElem? (i := 183) (by decide +kernel)⟩
theorem lw_p8 : lw_okq (⟨"BondDesk$Schedule", "daysCounted", "(II)J"⟩, 9) := ⟨⟨by decide +kernel, by decide +kernel⟩, List.mem_of_getElem? (i := 184) (by decide +kernel), List.mem_of_getElem? (i := 194) (by decide +kernel), List.mem_of_getElem? (i := 195) (by decide +kernel)⟩
theorem lw_p9 : lw_okq (⟨"java/lang/Throwable", "fillInStackTrace", "(I)Ljava/lang/Throwable;"⟩, 6) := ⟨⟨by decide +kernel, by decide +kernel⟩, List.mem_of_getElem? (i := 268) (by decide +kernel), List.mem_of_getElem? (i := 266) (by decide +kernel), List.mem_of_getElem? (i := 267) (by decide +kernel)⟩
theorem lw_p10 : lw_okq (⟨"BondDesk", "isHoliday", "(I)Z"⟩, 8) := ⟨⟨by decide +kernel, by decide +kernel⟩, List.mem_of_getElem? (i := 16) (by decide +kernel), List.mem_of_getElem? (i := 323) (by decide +kernel), List.mem_of_getElem? (i := 324) (by decide +kernel)⟩
theorem lw_p11 : lw_okq (⟨"BondDesk", "nextWorkingDate", "(I)I"⟩, 8) := ⟨⟨by decide +kernel, by decide +kernel⟩, List.mem_of_getElem? (i := 16) (by decide +kernel), List.mem_of_getElem? (i := 352) (by decide +kernel), List.mem_of_getElem? (i := 353) (by decide +kernel)⟩
theorem lw_p12 : lw_okq (⟨"BondDesk", "isWorkingDay", "(I)Z"⟩, 8) := ⟨⟨by decide +kernel, by decide +kernel⟩, List.mem_of_getElem? (i := 16) (by decide +kernel), List.mem_of_getElem? (i := 356) (by decide +kernel), List.mem_of_getElem? (i := 357) (by decide +kernel)⟩
theorem lw_p13 : lw_okq (⟨"BondDesk", "requireLife", "(II)V"⟩, 8) := ⟨⟨by decide +kernel, by decide +kernel⟩, List.mem_of_getElem? (i := 16) (by decide +kernel), List.mem_of_getElem? (i := 367) (by decide +kernel), List.mem_of_getElem? (i := 368) (by decide +kernel)⟩
theorem lw_p14 : lw_okq (⟨"BondDesk", "bondNumbered", "(I)LBondDesk$Bond;"⟩, 8) := ⟨⟨by decide +kernel, by decide +kernel⟩, List.mem_of_getElem? (i := 16) (by decide +kernel), List.mem_of_getElem? (i := 488) (by decide +kernel), List.mem_of_getElem? (i := 489) (by decide +kernel)⟩
theorem lw_p15 : lw_okq (⟨"BondDesk$Bond", "isCallDate", "(I)Z"⟩, 9) := ⟨⟨by decide +kernel, by decide +kernel⟩, List.mem_of_getElem? (i := 143) (by decide +kernel), List.mem_of_getElem? (i := 529) (by decide +kernel), List.mem_of_getElem? (i := 530) (by decide +kernel)⟩
def lw_privs_1 : List (MethodName × Nat) := [(⟨"BondDesk", "tell", "(I)J"⟩, 8), (⟨"BondDesk", "bondsThere", "()I"⟩, 8), (⟨"BondDesk", "piecesHeld", "()I"⟩, 8), (⟨"BondDesk", "worthHeld", "()J"⟩, 8), (⟨"BondDesk$Bond", "paymentOn", "(II)J"⟩, 9), (⟨"BondDesk$Bond", "isEnd", "(I)Z"⟩, 9), (⟨"BondDesk$Bond", "sunkOn", "(II)I"⟩, 9), (⟨"BondDesk$Schedule", "yearOfPeriod", "(I)J"⟩, 9), (⟨"BondDesk$Schedule", "daysCounted", "(II)J"⟩, 9), (⟨"java/lang/Throwable", "fillInStackTrace", "(I)Ljava/lang/Throwable;"⟩, 6), (⟨"BondDesk", "isHoliday", "(I)Z"⟩, 8), (⟨"BondDesk", "nextWorkingDate", "(I)I"⟩, 8), (⟨"BondDesk", "isWorkingDay", "(I)Z"⟩, 8), (⟨"BondDesk", "requireLife", "(II)V"⟩, 8), (⟨"BondDesk", "bondNumbered", "(I)LBondDesk$Bond;"⟩, 8), (⟨"BondDesk$Bond", "isCallDate", "(I)Z"⟩, 9)]
theorem lw_r1 : ∀ q ∈ lw_privs_1, lw_okq q := List.forall_mem_cons.mpr ⟨lw_p0, List.forall_mem_cons.mpr ⟨lw_p1, List.forall_mem_cons.mpr ⟨lw_p2, List.forall_mem_cons.mpr ⟨lw_p3, List.forall_mem_cons.mpr ⟨lw_p4, List.forall_mem_cons.mpr ⟨lw_p5, List.forall_mem_cons.mpr ⟨lw_p6, List.forall_mem_cons.mpr ⟨lw_p7, List.forall_mem_cons.mpr ⟨lw_p8, List.forall_mem_cons.mpr ⟨lw_p9, List.forall_mem_cons.mpr ⟨lw_p10, List.forall_mem_cons.mpr ⟨lw_p11, List.forall_mem_cons.mpr ⟨lw_p12, List.forall_mem_cons.mpr ⟨lw_p13, List.forall_mem_cons.mpr ⟨lw_p14, List.forall_mem_cons.mpr ⟨lw_p15, fun _ h => absurd h List.not_mem_nil⟩⟩⟩⟩⟩⟩⟩⟩⟩⟩⟩⟩⟩⟩⟩⟩
theorem lw_p16 : lw_okq (⟨"BondDesk$Bond", "greatestRate", "(IIJI)I"⟩, 9) := ⟨⟨by decide +kernel, by decide +kernel⟩, List.mem_of_getElem? (i := 143) (by decide +kernel), List.mem_of_getElem? (i := 599) (by decide +kernel), List.mem_of_getElem? (i := 600) (by decide +kernel)⟩
theorem lw_p17 : lw_okq (⟨"BondDesk$Bond", "callPayment", "(I)J"⟩, 9) := ⟨⟨by decide +kernel, by decide +kernel⟩, List.mem_of_getElem? (i := 143) (by decide +kernel), List.mem_of_getElem? (i := 624) (by decide +kernel), List.mem_of_getElem? (i := 625) (by decide +kernel)⟩
theorem lw_p18 : lw_okq (⟨"BondDesk", "requireWorkingDay", "()V"⟩, 8) := ⟨⟨by decide +kernel, by decide +kernel⟩, List.mem_of_getElem? (i := 16) (by decide +kernel), List.mem_of_getElem? (i := 639) (by decide +kernel), List.mem_of_getElem? (i := 640) (by decide +kernel)⟩
theorem lw_p19 : lw_okq (⟨"BondDesk", "lookAtBonds", "()V"⟩, 8) := ⟨⟨by decide +kernel, by decide +kernel⟩, List.mem_of_getElem? (i := 16) (by decide +kernel), List.mem_of_getElem? (i := 673) (by decide +kernel), List.mem_of_getElem? (i := 674) (by decide +kernel)⟩
theorem lw_p20 : lw_okq (⟨"BondDesk$Bond", "lookAt", "(IILBondDesk$Ledger;)V"⟩, 9) := ⟨⟨by decide +kernel, by decide +kernel⟩, List.mem_of_getElem? (i := 143) (by decide +kernel), List.mem_of_getElem? (i := 681) (by decide +kernel), List.mem_of_getElem? (i := 682) (by decide +kernel)⟩
theorem lw_p21 : lw_okq (⟨"BondDesk$Bond", "leave", "(I)V"⟩, 9) := ⟨⟨by decide +kernel, by decide +kernel⟩, List.mem_of_getElem? (i := 143) (by decide +kernel), List.mem_of_getElem? (i := 685) (by decide +kernel), List.mem_of_getElem? (i := 686) (by decide +kernel)⟩
theorem lw_p22 : lw_okq (⟨"BondDesk", "leastWorth", "(I)J"⟩, 8) := ⟨⟨by decide +kernel, by decide +kernel⟩, List.mem_of_getElem? (i := 16) (by decide +kernel), List.mem_of_getElem? (i := 721) (by decide +kernel), List.mem_of_getElem? (i := 722) (by decide +kernel)⟩
theorem lw_p23 : lw_okq (⟨"BondDeskModel", "no", "(I)I"⟩, 10) := ⟨⟨by decide +kernel, by decide +kernel⟩, List.mem_of_getElem? (i := 742) (by decide +kernel), List.mem_of_getElem? (i := 804) (by decide +kernel), List.mem_of_getElem? (i := 805) (by decide +kernel)⟩
theorem lw_p24 : lw_okq (⟨"BondDeskModel", "firstWorking", "(I)I"⟩, 10) := ⟨⟨by decide +kernel, by decide +kernel⟩, List.mem_of_getElem? (i := 742) (by decide +kernel), List.mem_of_getElem? (i := 827) (by decide +kernel), List.mem_of_getElem? (i := 828) (by decide +kernel)⟩
theorem lw_p25 : lw_okq (⟨"BondDeskModel", "isWorking", "(I)Z"⟩, 10) := ⟨⟨by decide +kernel, by decide +kernel⟩, List.mem_of_getElem? (i := 742) (by decide +kernel), List.mem_of_getElem? (i := 831) (by decide +kernel), List.mem_of_getElem? (i := 832) (by decide +kernel)⟩
theorem lw_p26 : lw_okq (⟨"BondDeskModel", "isBond", "(I)Z"⟩, 10) := ⟨⟨by decide +kernel, by decide +kernel⟩, List.mem_of_getElem? (i := 742) (by decide +kernel), List.mem_of_getElem? (i := 850) (by decide +kernel), List.mem_of_getElem? (i := 851) (by decide +kernel)⟩
theorem lw_p27 : lw_okq (⟨"BondDeskModel", "isThere", "(I)Z"⟩, 10) := ⟨⟨by decide +kernel, by decide +kernel⟩, List.mem_of_getElem? (i := 742) (by decide +kernel), List.mem_of_getElem? (i := 854) (by decide +kernel), List.mem_of_getElem? (i := 855) (by decide +kernel)⟩
theorem lw_p28 : lw_okq (⟨"BondDeskModel", "own", "(II)I"⟩, 10) := ⟨⟨by decide +kernel, by decide +kernel⟩, List.mem_of_getElem? (i := 742) (by decide +kernel), List.mem_of_getElem? (i := 858) (by decide +kernel), List.mem_of_getElem? (i := 859) (by decide +kernel)⟩
theorem lw_p29 : lw_okq (⟨"BondDeskModel", "leftBehind", "(II)I"⟩, 10) := ⟨⟨by decide +kernel, by decide +kernel⟩, List.mem_of_getElem? (i := 742) (by decide +kernel), List.mem_of_getElem? (i := 862) (by decide +kernel), List.mem_of_getElem? (i := 863) (by decide +kernel)⟩
theorem lw_p30 : lw_okq (⟨"BondDeskModel", "isSunk", "(II)Z"⟩, 10) := ⟨⟨by decide +kernel, by decide +kernel⟩, List.mem_of_getElem? (i := 742) (by decide +kernel), List.mem_of_getElem? (i := 866) (by decide +kernel), List.mem_of_getElem? (i := 867) (by decide +kernel)⟩
theorem lw_p31 : lw_okq (⟨"BondDeskModel", "couponDay", "(II)I"⟩, 10) := ⟨⟨by decide +kernel, by decide +kernel⟩, List.mem_of_getElem? (i := 742) (by decide +kernel), List.mem_of_getElem? (i := 870) (by decide +kernel), List.mem_of_getElem? (i := 871) (by decide +kernel)⟩
def lw_privs_2 : List (MethodName × Nat) := [(⟨"BondDesk$Bond", "greatestRate", "(IIJI)I"⟩, 9), (⟨"BondDesk$Bond", "callPayment", "(I)J"⟩, 9), (⟨"BondDesk", "requireWorkingDay", "()V"⟩, 8), (⟨"BondDesk", "lookAtBonds", "()V"⟩, 8), (⟨"BondDesk$Bond", "lookAt", "(IILBondDesk$Ledger;)V"⟩, 9), (⟨"BondDesk$Bond", "leave", "(I)V"⟩, 9), (⟨"BondDesk", "leastWorth", "(I)J"⟩, 8), (⟨"BondDeskModel", "no", "(I)I"⟩, 10), (⟨"BondDeskModel", "firstWorking", "(I)I"⟩, 10), (⟨"BondDeskModel", "isWorking", "(I)Z"⟩, 10), (⟨"BondDeskModel", "isBond", "(I)Z"⟩, 10), (⟨"BondDeskModel", "isThere", "(I)Z"⟩, 10), (⟨"BondDeskModel", "own", "(II)I"⟩, 10), (⟨"BondDeskModel", "leftBehind", "(II)I"⟩, 10), (⟨"BondDeskModel", "isSunk", "(II)Z"⟩, 10), (⟨"BondDeskModel", "couponDay", "(II)I"⟩, 10)]
theorem lw_r2 : ∀ q ∈ lw_privs_2, lw_okq q := List.forall_mem_cons.mpr ⟨lw_p16, List.forall_mem_cons.mpr ⟨lw_p17, List.forall_mem_cons.mpr ⟨lw_p18, List.forall_mem_cons.mpr ⟨lw_p19, List.forall_mem_cons.mpr ⟨lw_p20, List.forall_mem_cons.mpr ⟨lw_p21, List.forall_mem_cons.mpr ⟨lw_p22, List.forall_mem_cons.mpr ⟨lw_p23, List.forall_mem_cons.mpr ⟨lw_p24, List.forall_mem_cons.mpr ⟨lw_p25, List.forall_mem_cons.mpr ⟨lw_p26, List.forall_mem_cons.mpr ⟨lw_p27, List.forall_mem_cons.mpr ⟨lw_p28, List.forall_mem_cons.mpr ⟨lw_p29, List.forall_mem_cons.mpr ⟨lw_p30, List.forall_mem_cons.mpr ⟨lw_p31, fun _ h => absurd h List.not_mem_nil⟩⟩⟩⟩⟩⟩⟩⟩⟩⟩⟩⟩⟩⟩⟩⟩
theorem lw_p32 : lw_okq (⟨"BondDeskModel", "firstCall", "(I)I"⟩, 10) := ⟨⟨by decide +kernel, by decide +kernel⟩, List.mem_of_getElem? (i := 742) (by decide +kernel), List.mem_of_getElem? (i := 879) (by decide +kernel), List.mem_of_getElem? (i := 880) (by decide +kernel)⟩
theorem lw_p33 : lw_okq (⟨"BondDeskModel", "isCalled", "(II)Z"⟩, 10) := ⟨⟨by decide +kernel, by decide +kernel⟩, List.mem_of_getElem? (i := 742) (by decide +kernel), List.mem_of_getElem? (i := 883) (by decide +kernel), List.mem_of_getElem? (i := 884) (by decide +kernel)⟩
theorem lw_p34 : lw_okq (⟨"BondDeskModel", "told", "(II)I"⟩, 10) := ⟨⟨by decide +kernel, by decide +kernel⟩, List.mem_of_getElem? (i := 742) (by decide +kernel), List.mem_of_getElem? (i := 895) (by decide +kernel), List.mem_of_getElem? (i := 896) (by decide +kernel)⟩
theorem lw_p35 : lw_okq (⟨"BondDeskModel", "couponTold", "(III)I"⟩, 10) := ⟨⟨by decide +kernel, by decide +kernel⟩, List.mem_of_getElem? (i := 742) (by decide +kernel), List.mem_of_getElem? (i := 903) (by decide +kernel), List.mem_of_getElem? (i := 904) (by decide +kernel)⟩
theorem lw_p36 : lw_okq (⟨"BondDeskModel", "beginning", "(II)I"⟩, 10) := ⟨⟨by decide +kernel, by decide +kernel⟩, List.mem_of_getElem? (i := 742) (by decide +kernel), List.mem_of_getElem? (i := 907) (by decide +kernel), List.mem_of_getElem? (i := 908) (by decide +kernel)⟩
theorem lw_p37 : lw_okq (⟨"BondDeskModel", "coupon", "(IIJ)I"⟩, 10) := ⟨⟨by decide +kernel, by decide +kernel⟩, List.mem_of_getElem? (i := 742) (by decide +kernel), List.mem_of_getElem? (i := 912) (by decide +kernel), List.mem_of_getElem? (i := 913) (by decide +kernel)⟩
theorem lw_p38 : lw_okq (⟨"BondDeskModel", "interest", "(IIIII)I"⟩, 10) := ⟨⟨by decide +kernel, by decide +kernel⟩, List.mem_of_getElem? (i := 742) (by decide +kernel), List.mem_of_getElem? (i := 916) (by decide +kernel), List.mem_of_getElem? (i := 917) (by decide +kernel)⟩
theorem lw_p39 : lw_okq (⟨"BondDeskModel", "accruedOn", "(II)I"⟩, 10) := ⟨⟨by decide +kernel, by decide +kernel⟩, List.mem_of_getElem? (i := 742) (by decide +kernel), List.mem_of_getElem? (i := 930) (by decide +kernel), List.mem_of_getElem? (i := 931) (by decide +kernel)⟩
theorem lw_p40 : lw_okq (⟨"BondDeskModel", "behind", "(II)I"⟩, 10) := ⟨⟨by decide +kernel, by decide +kernel⟩, List.mem_of_getElem? (i := 742) (by decide +kernel), List.mem_of_getElem? (i := 934) (by decide +kernel), List.mem_of_getElem? (i := 935) (by decide +kernel)⟩
theorem lw_p41 : lw_okq (⟨"BondDeskModel", "worthNow", "(II)J"⟩, 10) := ⟨⟨by decide +kernel, by decide +kernel⟩, List.mem_of_getElem? (i := 742) (by decide +kernel), List.mem_of_getElem? (i := 942) (by decide +kernel), List.mem_of_getElem? (i := 943) (by decide +kernel)⟩
theorem lw_p42 : lw_okq (⟨"BondDeskModel", "worthOn", "(IIII)J"⟩, 10) := ⟨⟨by decide +kernel, by decide +kernel⟩, List.mem_of_getElem? (i := 742) (by decide +kernel), List.mem_of_getElem? (i := 946) (by decide +kernel), List.mem_of_getElem? (i := 947) (by decide +kernel)⟩
theorem lw_p43 : lw_okq (⟨"BondDeskModel", "yielded", "(II)I"⟩, 10) := ⟨⟨by decide +kernel, by decide +kernel⟩, List.mem_of_getElem? (i := 742) (by decide +kernel), List.mem_of_getElem? (i := 957) (by decide +kernel), List.mem_of_getElem? (i := 958) (by decide +kernel)⟩
theorem lw_p44 : lw_okq (⟨"BondDeskModel", "fullPrice", "(II)J"⟩, 10) := ⟨⟨by decide +kernel, by decide +kernel⟩, List.mem_of_getElem? (i := 742) (by decide +kernel), List.mem_of_getElem? (i := 961) (by decide +kernel), List.mem_of_getElem? (i := 962) (by decide +kernel)⟩
theorem lw_p45 : lw_okq (⟨"BondDeskModel", "callPaid", "(II)J"⟩, 10) := ⟨⟨by decide +kernel, by decide +kernel⟩, List.mem_of_getElem? (i := 742) (by decide +kernel), List.mem_of_getElem? (i := 973) (by decide +kernel), List.mem_of_getElem? (i := 974) (by decide +kernel)⟩
theorem lw_p46 : lw_okq (⟨"BondDeskModel", "look", "(I)J"⟩, 10) := ⟨⟨by decide +kernel, by decide +kernel⟩, List.mem_of_getElem? (i := 742) (by decide +kernel), List.mem_of_getElem? (i := 989) (by decide +kernel), List.mem_of_getElem? (i := 990) (by decide +kernel)⟩
theorem lw_p47 : lw_okq (⟨"BondDeskModel", "pay", "(IIJ)J"⟩, 10) := ⟨⟨by decide +kernel, by decide +kernel⟩, List.mem_of_getElem? (i := 742) (by decide +kernel), List.mem_of_getElem? (i := 993) (by decide +kernel), List.mem_of_getElem? (i := 994) (by decide +kernel)⟩
def lw_privs_3 : List (MethodName × Nat) := [(⟨"BondDeskModel", "firstCall", "(I)I"⟩, 10), (⟨"BondDeskModel", "isCalled", "(II)Z"⟩, 10), (⟨"BondDeskModel", "told", "(II)I"⟩, 10), (⟨"BondDeskModel", "couponTold", "(III)I"⟩, 10), (⟨"BondDeskModel", "beginning", "(II)I"⟩, 10), (⟨"BondDeskModel", "coupon", "(IIJ)I"⟩, 10), (⟨"BondDeskModel", "interest", "(IIIII)I"⟩, 10), (⟨"BondDeskModel", "accruedOn", "(II)I"⟩, 10), (⟨"BondDeskModel", "behind", "(II)I"⟩, 10), (⟨"BondDeskModel", "worthNow", "(II)J"⟩, 10), (⟨"BondDeskModel", "worthOn", "(IIII)J"⟩, 10), (⟨"BondDeskModel", "yielded", "(II)I"⟩, 10), (⟨"BondDeskModel", "fullPrice", "(II)J"⟩, 10), (⟨"BondDeskModel", "callPaid", "(II)J"⟩, 10), (⟨"BondDeskModel", "look", "(I)J"⟩, 10), (⟨"BondDeskModel", "pay", "(IIJ)J"⟩, 10)]
theorem lw_r3 : ∀ q ∈ lw_privs_3, lw_okq q := List.forall_mem_cons.mpr ⟨lw_p32, List.forall_mem_cons.mpr ⟨lw_p33, List.forall_mem_cons.mpr ⟨lw_p34, List.forall_mem_cons.mpr ⟨lw_p35, List.forall_mem_cons.mpr ⟨lw_p36, List.forall_mem_cons.mpr ⟨lw_p37, List.forall_mem_cons.mpr ⟨lw_p38, List.forall_mem_cons.mpr ⟨lw_p39, List.forall_mem_cons.mpr ⟨lw_p40, List.forall_mem_cons.mpr ⟨lw_p41, List.forall_mem_cons.mpr ⟨lw_p42, List.forall_mem_cons.mpr ⟨lw_p43, List.forall_mem_cons.mpr ⟨lw_p44, List.forall_mem_cons.mpr ⟨lw_p45, List.forall_mem_cons.mpr ⟨lw_p46, List.forall_mem_cons.mpr ⟨lw_p47, fun _ h => absurd h List.not_mem_nil⟩⟩⟩⟩⟩⟩⟩⟩⟩⟩⟩⟩⟩⟩⟩⟩
theorem lw_p48 : lw_okq (⟨"BondDeskModel", "leave", "(II)V"⟩, 10) := ⟨⟨by decide +kernel, by decide +kernel⟩, List.mem_of_getElem? (i := 742) (by decide +kernel), List.mem_of_getElem? (i := 997) (by decide +kernel), List.mem_of_getElem? (i := 998) (by decide +kernel)⟩
theorem lw_p49 : lw_okq (⟨"BondDeskModel", "counted", "(I)J"⟩, 10) := ⟨⟨by decide +kernel, by decide +kernel⟩, List.mem_of_getElem? (i := 742) (by decide +kernel), List.mem_of_getElem? (i := 1005) (by decide +kernel), List.mem_of_getElem? (i := 1006) (by decide +kernel)⟩
def lw_privs_4 : List (MethodName × Nat) := [(⟨"BondDeskModel", "leave", "(II)V"⟩, 10), (⟨"BondDeskModel", "counted", "(I)J"⟩, 10)]
theorem lw_r4 : ∀ q ∈ lw_privs_4, lw_okq q := List.forall_mem_cons.mpr ⟨lw_p48, List.forall_mem_cons.mpr ⟨lw_p49, fun _ h => absurd h List.not_mem_nil⟩⟩
def lw_privs : List (MethodName × Nat) := lw_privs_1 ++ (lw_privs_2 ++ (lw_privs_3 ++ (lw_privs_4)))
def lw_tbl : List Cond := k2_sels lw_privs ++ tables_1
theorem lw_privs_ok : ∀ q ∈ lw_privs, lw_okq q := by
  show ∀ q ∈ lw_privs_1 ++ (lw_privs_2 ++ (lw_privs_3 ++ (lw_privs_4))), lw_okq q
  exact List.forall_mem_append.mpr ⟨lw_r1, List.forall_mem_append.mpr ⟨lw_r2, List.forall_mem_append.mpr ⟨lw_r3, lw_r4⟩⟩⟩
/-- the streams that the claim lets the run draw from -/
abbrev lw_cs : List Choice := [Jvm.Choice.named "NaN.bits"]
theorem lw_bits : nanBits ∈ lw_cs := by first | decide | exact List.mem_cons_self | simp [lw_cs, nanBits]
-- ===== end of PART A; then your names; then what follows =====
end
section
/-! ===== BEGIN words of one list among another's, by their places ===== -/
theorem goodIn_r {big : List Cond} (ws : List Cond) (ps : List Nat) (hp : ws = ps.filterMap (fun i => big[i]?)) (h : ws.all goodWord = true) : GoodIn big ws := by
  intro w hw
  have h1 := List.all_eq_true.mp h w hw
  rw [hp] at hw
  obtain ⟨i, -, hi⟩ := List.mem_filterMap.mp hw
  have hm : w ∈ big := by first | exact List.mem_of_getElem? hi | exact List.getElem?_mem hi
  exact ⟨hm, good_of_word h1⟩
theorem goodIn_app {big a b : List Cond} (ha : GoodIn big a) (hb : GoodIn big b) : GoodIn big (a ++ b) := fun w h => (List.mem_append.mp h).elim (ha w) (hb w)
theorem goodIn_ca {big a b : List Cond} {c : Cond} (ha : GoodIn big (c :: a)) (hb : GoodIn big b) : GoodIn big (c :: (a ++ b)) := fun w h => (List.mem_cons.mp h).elim (fun e => ha w (List.mem_cons.mpr (Or.inl e))) (fun h => (List.mem_append.mp h).elim (fun h => ha w (List.mem_cons.mpr (Or.inr h))) (hb w))
theorem goodIn_sub {big ws : List Cond} (hm : ∀ w ∈ ws, w ∈ big) (h : ws.all goodWord = true) : GoodIn big ws := fun w hw => ⟨hm w hw, good_of_word (List.all_eq_true.mp h w hw)⟩
/-! ===== END ===== -/

/-! ===== BEGIN exceptions that leave a method, and their catching by the caller (launches without stack traces) ===== -/
section VXA
/-! The laws vx_back, vx_callV, vx_callS, vx_callSW, vx_throw0, vx_throwS follow proofs of the library, with one case more: JvmDerived/Free/Laws.lean (Back.of_free), Shelf42/LK1.lean (callV, callS), Shelf/KitTraced.lean (throwNew0V, throwNewS). -/
/-- where a method has thrown q: the class by its name, the cell, what was written, the world -/
def vx_T (XC : String → State → State → Prop) (st : State) (q : Addr) (t : State) (mc ms : Nat) (free : Addr → Prop) : Prop :=
  ∃ (E : String) (ce : Cell) (L : List Loc), XC E st t ∧ t.heap[q]? = some ce ∧ ce.vm = .none ∧ st.vm.findClass E = some ce.cls ∧ st.WarmedH t.vm ∧ st.sameButNew ({ t with vm := st.vm } : State) L mc ms ∧ ∀ z ∈ L, free z.base
def vx_Q (Qc : Array Value → State → Outcome → State → Prop) (XC : String → State → State → Prop) (mc ms : Nat) (free : Addr → Prop) : Array Value → State → Outcome → State → Prop := fun a st o t =>
  (Qc a st o t ∧ ∃ L, FrameEnd st o t L mc ms ∧ ∀ q ∈ L, free q.base) ∨ ∃ q, o = .threw q ∧ vx_T XC st q t mc ms free
/-- a callee that returns or throws -/
def vx_Met (l : Launch) (y : MethodName) (ws : List Cond) (rm : Room) (Pc : Array Value → State → Prop) (Qc : Array Value → State → Outcome → State → Prop) (XC : String → State → State → Prop) (mc ms : Nat) (free : Addr → Prop) : Prop :=
  MetFree l y (headSpec ws rm) Pc (fun _ _ _ _ _ => True) (vx_Q Qc XC mc ms free)
def vx_Post (XC : String → State → State → Prop) (mc ms : Nat) (free : Addr → Prop) : Pt → Array Value → Addr → Pt → Prop := fun A a q B =>
  ∃ (g : JFrame) (mk : MethodId) (t : State) (L : List Loc) (E : String) (ce : Cell), B.U.heap = t.heap ∧ B.U.vm = t.vm ∧ XC E (A.U.calling g mk a) t ∧ t.heap[q]? = some ce ∧ ce.vm = .none ∧ A.U.vm.findClass E = some ce.cls ∧ B.locs = A.locs ++ L ∧ (∀ z ∈ L, free z.base) ∧ B.cells = A.cells + mc ∧ B.slots = A.slots + ms
def vx_Back (l : Launch) (R : Room) (p : Program) (e : Env) (below : List Frame) (s : State) (sargs : Array Value) (y : MethodName) (len W9 : Nat)
    (Pre : Pt → Array Value → Prop) (Post : Pt → Array Value → Option Value → Pt → Prop) (PostX : Pt → Array Value → Addr → Pt → Prop) : Prop :=
  ∀ (m : MethodId) (meth : Method) (c : Code) (A : Pt) (g : JFrame) (ig : Instr) (mk : MethodId) (a : Array Value),
    Stand p l e R s m sargs below meth c A.U A.locs A.cells A.slots → g.method = m → g.locals.size = c.maxLocals → decode c.code g.pc = .ok (ig, len) →
    2 * g.monitorRoom + (g.stack.map fun v => v.category).sum ≤ W9 → A.U.methodNamed? y = some mk → Pre A a →
    (∃ (v : Option Value) (B : Pt), Stand p l e R s m sargs below meth c B.U B.locs B.cells B.slots ∧ Post A a v B ∧
      Steps p.tables e below (doInvoke e (A.U.setTop g) [] mk a).1 (B.U.setTop { g with pc := g.pc + len, stack := v.toList ++ g.stack })) ∨
    (∃ (q : Addr) (B : Pt), Stand p l e R s m sargs below meth c B.U B.locs B.cells B.slots ∧ PostX A a q B ∧
      Steps p.tables e below (doInvoke e (A.U.setTop g) [] mk a).1 ((B.U.setTop g).pushFrame (.throwing q)))
section Payer
variable {l : Launch} {R : Room} {p : Program} {e : Env} {below : List Frame} {s : State} {sargs : Array Value} {y : MethodName} {len W9 : Nat}
theorem vx_back {ws : List Cond} {rm : Room} {Pc : Array Value → State → Prop} {Qc : Array Value → State → Outcome → State → Prop} {XC : String → State → State → Prop} {mc ms : Nat} {free : Addr → Prop} {bytes : ByteArray} {maxL : Nat} {ret : Option FieldType}
    (hM : vx_Met l y ws rm Pc Qc XC mc ms free) (hblind : FrameBlind Pc) (hrc : rm.cells = mc) (hrs : rm.slots = ms)
    (hframes : rm.frames + 1 ≤ R.frames) (hlocals : W9 + (maxL + 11) + rm.locals ≤ R.locals)
    (hws : ∀ w ∈ ws, ∀ a' U, s.WarmedH U.vm → w.before a' U = true) (hcode : Cond.code y bytes maxL ret ∈ ws) (hinit : ∀ a' U, s.WarmedH U.vm → (Cond.initialized y.cls).before a' U = true) :
    vx_Back l R p e below s sargs y len W9 (PreOf R mc ms Pc) (PostOf Qc mc ms free) (vx_Post XC mc ms free) := by
  intro m meth c A g ig mk a X hg hsize hdg hW hn hp
  have h1 : (headSpec ws rm).pre.before a A.U = true := atoms_intro fun w hw => hws w hw _ _ X.warmed
  have h2 : (Cond.code y bytes maxL ret).before a A.U = true := hws _ hcode _ _ X.warmed
  have h3 : (Cond.initialized y.cls).before a A.U = true := hinit _ _ X.warmed
  have h4 : A.cells + (headSpec ws rm).room.cells ≤ R.cells := by rw [show (headSpec ws rm).room.cells = mc from hrc]; exact hp.1
  have h5 : A.slots + (headSpec ws rm).room.slots ≤ R.slots := by rw [show (headSpec ws rm).room.slots = ms from hrs]; exact hp.2.1
  have hPc : Pc a (A.U.calling g mk a) := hblind _ _ _ _ hp.2.2
  obtain ⟨U, Ls, c0, s0⟩ := A
  dsimp only [Pt.U, Pt.locs, Pt.cells, Pt.slots] at h1 h2 h3 h4 h5 X hn hPc ⊢
  obtain ⟨methY, cY, hmY, hcY, -, hlY, -, -, -, -⟩ := Cond.code_spec hn h2
  obtain ⟨kY, hkY, -⟩ := className_of_methodNamed hn
  have hinitY : kY.init = .initialized := Cond.initialized_spec (findClass_of_methodNamed hn) hkY h3
  have h : At U g.method c below := by rw [hg]; exact X.here
  have hlocals9 : W9 + (maxL + 11) + (headSpec ws rm).room.locals ≤ R.locals := hlocals
  have happ : (headSpec ws rm).appliesLoose y e.platform (U.calling g mk a) = true :=
    Spec.appliesLoose_calling (g := g) h hdg hn hkY hinitY
      (X.room_calling (g := g) (R' := (headSpec ws rm).room) hsize hmY hcY hframes (by rw [hlY]; omega) h4 h5) h1
  obtain ⟨mid, hmid⟩ := h.above
  have hfr : (U.setTop g).frames = (.java g :: mid) ++ below := by rw [State.frames_setTop' g h.top, hmid]; rfl
  obtain ⟨o, s₂, hsteps, -, hend, hq⟩ := Steps.callFree hM p X.admits X.cas X.clock (acts := []) hfr happ hPc trivial
  have hq' : vx_Q Qc XC mc ms free a (U.calling g mk a) o s₂ := hq
  rw [State.frames_setTop' g h.top] at hend
  obtain ⟨g₀, hg0⟩ := Option.isSome_iff_exists.mp h.top
  obtain ⟨r, hr⟩ := State.topJava?_eq_some.mp hg0
  have hr' : (({ U with heap := s₂.heap, slotsUsed := s₂.slotsUsed } : State).setVm s₂.vm).frames = .java g₀ :: r := hr
  rcases hq' with ⟨hqc, L, hfe, hL⟩ | ⟨q, rfl, E, ce, L, hx, hce, hcv, hcl, hW₂, hsm, hL⟩
  · obtain ⟨⟨v, rfl⟩, hW₂, e2, q2, q3, q4, q5, q6⟩ := id hfe
    have e3 : s₂ = ({ (U.calling g mk a).setFrames s₂.frames with heap := s₂.heap, slotsUsed := s₂.slotsUsed } : State).setVm s₂.vm := by
      have : s₂ = ({ s₂ with vm := (U.calling g mk a).vm } : State).setVm s₂.vm := rfl
      rw [e2] at this
      exact this
    obtain ⟨c₂, i₂, len₂, hc₂, hd₂, hf₂⟩ := hend
    have hW' : U.WarmedH s₂.vm := hW₂
    have hcc : c₂ = c := by
      have h1 : s₂.code? g.method = U.code? g.method := by
        rw [State.code?_eq, State.code?_eq, hW'.alike.method?]
      exact Option.some.inj (hc₂.symm.trans (h1.trans h.code))
    subst hcc
    have hlen : len₂ = len := by rw [hdg] at hd₂; cases hd₂; rfl
    subst hlen
    have hs₂ : s₂ = (({ U with heap := s₂.heap, slotsUsed := s₂.slotsUsed } : State).setVm s₂.vm).setTop { g with pc := g.pc + len₂, stack := v.toList ++ g.stack } := by
      refine e3.trans ?_
      rw [hf₂, State.calling_eq h.top, State.setFrames_setFrames, State.setTop_of_frames _ hr', hr]
      rfl
    have hsame : U.sameButNew ({ U with heap := s₂.heap, slotsUsed := s₂.slotsUsed } : State) L mc ms := by
      refine ⟨?_, q2, q3, q4, q5, q6⟩
      obtain ⟨t, ht, -⟩ := State.frames_cons hr
      show ({ U with heap := s₂.heap, slotsUsed := s₂.slotsUsed } : State) = { U.setFrames U.frames with heap := s₂.heap, slotsUsed := s₂.slotsUsed }
      rw [State.setFrames_self ht]
    subst hg
    refine Or.inl ⟨v, ⟨(({ U with heap := s₂.heap, slotsUsed := s₂.slotsUsed } : State).setVm s₂.vm), Ls ++ L, c0 + mc, s0 + ms⟩,
      ⟨X.admits, X.cas, X.clock, X.frames, X.room, X.hears, X.method, X.code, (X.here.setHeapUsed s₂.heap s₂.slotsUsed).setVm hW'.alike, X.tail, State.WarmedH.trans X.warmed hW', X.limits, X.bytes, X.same.trans (hsame.setVm s.vm)⟩,
      ⟨g, mk, s₂, L, rfl, rfl, hqc, rfl, hL, rfl, rfl⟩, ?_⟩
    show Steps p.tables e below _ ((({ U with heap := s₂.heap, slotsUsed := s₂.slotsUsed } : State).setVm s₂.vm).setTop { g with pc := g.pc + len₂, stack := v.toList ++ g.stack })
    rw [← hs₂]
    exact hsteps
  · obtain ⟨e2, q2, q3, q4, q5, q6⟩ := id hsm
    have e3 : s₂ = ({ (U.calling g mk a).setFrames s₂.frames with heap := s₂.heap, slotsUsed := s₂.slotsUsed } : State).setVm s₂.vm := by
      have : s₂ = ({ s₂ with vm := (U.calling g mk a).vm } : State).setVm s₂.vm := rfl
      rw [e2] at this
      exact this
    have hf₂ : s₂.frames = .throwing q :: .java g :: U.frames.tail := hend
    have hW' : U.WarmedH s₂.vm := hW₂
    have hs₂ : s₂ = ((({ U with heap := s₂.heap, slotsUsed := s₂.slotsUsed } : State).setVm s₂.vm).setTop g).pushFrame (.throwing q) := by
      refine e3.trans ?_
      rw [hf₂, State.calling_eq h.top, State.setFrames_setFrames, State.pushFrame, State.frames_setTop _ hr', State.setTop_of_frames _ hr', State.setFrames_setFrames, hr]
      rfl
    have hsame : U.sameButNew ({ U with heap := s₂.heap, slotsUsed := s₂.slotsUsed } : State) L mc ms := by
      refine ⟨?_, q2, q3, q4, q5, q6⟩
      obtain ⟨t, ht, -⟩ := State.frames_cons hr
      show ({ U with heap := s₂.heap, slotsUsed := s₂.slotsUsed } : State) = { U.setFrames U.frames with heap := s₂.heap, slotsUsed := s₂.slotsUsed }
      rw [State.setFrames_self ht]
    subst hg
    refine Or.inr ⟨q, ⟨(({ U with heap := s₂.heap, slotsUsed := s₂.slotsUsed } : State).setVm s₂.vm), Ls ++ L, c0 + mc, s0 + ms⟩,
      ⟨X.admits, X.cas, X.clock, X.frames, X.room, X.hears, X.method, X.code, (X.here.setHeapUsed s₂.heap s₂.slotsUsed).setVm hW'.alike, X.tail, State.WarmedH.trans X.warmed hW', X.limits, X.bytes, X.same.trans (hsame.setVm s.vm)⟩,
      ⟨g, mk, s₂, L, E, ce, rfl, rfl, hx, hce, hcv, hcl, rfl, hL, rfl, rfl⟩, ?_⟩
    show Steps p.tables e below _ (((({ U with heap := s₂.heap, slotsUsed := s₂.slotsUsed } : State).setVm s₂.vm).setTop g).pushFrame (.throwing q))
    rw [← hs₂]
    exact hsteps
end Payer
section Calls
variable {p : Program} {l : Launch} {e : Env} {R : Room} {s : State} {m : MethodId} {args : Array Value} {below : List Frame} {meth : Method} {c : Code} {T : State} {locs : List Loc} {cells slots : Nat}
theorem vx_callV (X : Stand p l e R s m args below meth c T locs cells slots) (hexec : p.tables.exec = Jvm.exec) {own C : String} {index : Nat} {y : MethodName} {bytes : ByteArray} {maxL : Nat} {ret : Option FieldType}
    (hown : s.vm.findClass own = some m.cls) (hlink : (Cond.methodLink own index y).before args s = true) (hinst : (Cond.instanceMethod y).before args s = true) (hsel : (Cond.selects C y y).before args s = true)
    (hcode : (Cond.code y bytes maxL ret).before args s = true) (hy : y.cls ≠ "java/lang/invoke/MethodHandle" ∧ y.cls ≠ "java/lang/invoke/VarHandle")
    {W9 : Nat} {Pre : Pt → Array Value → Prop} {Post : Pt → Array Value → Option Value → Pt → Prop} {PostX : Pt → Array Value → Addr → Pt → Prop} (hK : vx_Back l R p e below s args y 3 W9 Pre Post PostX)
    {b : Addr} {cellB : Cell} (hcell : T.heap[b]? = some cellB) (hobj : cellB.vm.isStatics = false) (hcls : s.vm.findClass C = some cellB.cls)
    {g : JFrame} (hg : g.method = m) (hsize : g.locals.size = c.maxLocals) {argsL rest : List Value} (hlen : ∀ sig, parseMethodDescriptor y.desc = some sig → argsL.length = sig.parameters.length)
    (hstack : g.stack = argsL.reverse ++ .ref b :: rest) (hW : 2 * g.monitorRoom + (rest.map fun v => v.category).sum ≤ W9) (hdg : decode c.code g.pc = .ok (.invokevirtual index, 3))
    (hpre : ∀ vm₁, s.WarmedH vm₁ → Pre ⟨T.setVm vm₁, locs, cells, slots⟩ (Value.ref b :: argsL).toArray) :
    (∃ (v : Option Value) (vm₁ : Vm) (B : Pt), s.WarmedH vm₁ ∧ Stand p l e R s m args below meth c B.U B.locs B.cells B.slots ∧ Post ⟨T.setVm vm₁, locs, cells, slots⟩ (Value.ref b :: argsL).toArray v B ∧
      ∀ target, Steps p.tables e below (B.U.setTop { g with pc := g.pc + 3, stack := v.toList ++ rest }) target → Steps p.tables e below (T.setTop g) target) ∨
    (∃ (q : Addr) (vm₁ : Vm) (B : Pt), s.WarmedH vm₁ ∧ Stand p l e R s m args below meth c B.U B.locs B.cells B.slots ∧ PostX ⟨T.setVm vm₁, locs, cells, slots⟩ (Value.ref b :: argsL).toArray q B ∧
      Steps p.tables e below (T.setTop g) ((B.U.setTop { g with stack := rest }).pushFrame (.throwing q))) := by
  obtain ⟨mk, methM, hnamed, hmethM, hstM, habM⟩ := Cond.instanceMethod_spec hinst
  obtain ⟨methM', cM, hmethM', -, -, -, -, -, -, hsigM⟩ := Cond.code_spec hnamed hcode
  cases hmethM.symm.trans hmethM'
  obtain ⟨c2, r2, m2, q1, q2, q3, q4, kP, hkP, hkPi⟩ := Cond.selects_spec hsel
  cases hcls.symm.trans q1
  cases (State.methodFound?_of_named hnamed hy).symm.trans q2
  cases hnamed.symm.trans q3
  have hselP : selectMethod e.platform s.vm cellB.cls mk = .method mk := by rw [Launch.admits_selectMethod X.admits]; exact q4
  obtain ⟨vm₁, X₁, hstep₁⟩ := X.invokevirtual hexec hown hlink hnamed hmethM hstM hkP hkPi hy (a := b) (cell := cellB) hcell
    (fun z h => by rw [h] at hobj; cases hobj) hselP hmethM habM hkP hkPi (g := g) hg (argsL := argsL) (rest := rest) (hlen _ hsigM) hstack hdg
  rcases hK m meth c ⟨T.setVm vm₁, locs, cells, slots⟩ { g with stack := rest } (.invokevirtual index) mk (Value.ref b :: argsL).toArray X₁ hg hsize hdg hW (X₁.named hnamed) (hpre vm₁ X₁.warmed) with ⟨v, B, X', hpost, hsteps⟩ | ⟨q, B, X', hpost, hsteps⟩
  · exact Or.inl ⟨v, vm₁, B, X₁.warmed, X', hpost, fun target h => hstep₁ _ fun acts => by rw [doInvoke_state]; exact hsteps.trans h⟩
  · exact Or.inr ⟨q, vm₁, B, X₁.warmed, X', hpost, hstep₁ _ fun acts => by rw [doInvoke_state]; exact hsteps⟩
theorem vx_callS (X : Stand p l e R s m args below meth c T locs cells slots) (hexec : p.tables.exec = Jvm.exec) {own : String} {index : Nat} {y : MethodName} {bytes : ByteArray} {maxL : Nat} {ret : Option FieldType}
    (hown : s.vm.findClass own = some m.cls) (hlink : (Cond.methodLink own index y).before args s = true) (hstat : (Cond.static y).before args s = true) (hinit : (Cond.initialized y.cls).before args s = true)
    (hcode : (Cond.code y bytes maxL ret).before args s = true) (hy : y.cls ≠ "java/lang/invoke/MethodHandle" ∧ y.cls ≠ "java/lang/invoke/VarHandle")
    {W9 : Nat} {Pre : Pt → Array Value → Prop} {Post : Pt → Array Value → Option Value → Pt → Prop} {PostX : Pt → Array Value → Addr → Pt → Prop} (hK : vx_Back l R p e below s args y 3 W9 Pre Post PostX)
    {g : JFrame} (hg : g.method = m) (hsize : g.locals.size = c.maxLocals) {argsL rest : List Value} (hlen : ∀ sig, parseMethodDescriptor y.desc = some sig → argsL.length = sig.parameters.length)
    (hstack : g.stack = argsL.reverse ++ rest) (hW : 2 * g.monitorRoom + (rest.map fun v => v.category).sum ≤ W9) (hdg : decode c.code g.pc = .ok (.invokestatic index, 3))
    (hpre : ∀ vm₁, s.WarmedH vm₁ → Pre ⟨T.setVm vm₁, locs, cells, slots⟩ argsL.toArray) :
    (∃ (v : Option Value) (vm₁ : Vm) (B : Pt), s.WarmedH vm₁ ∧ Stand p l e R s m args below meth c B.U B.locs B.cells B.slots ∧ Post ⟨T.setVm vm₁, locs, cells, slots⟩ argsL.toArray v B ∧
      ∀ target, Steps p.tables e below (B.U.setTop { g with pc := g.pc + 3, stack := v.toList ++ rest }) target → Steps p.tables e below (T.setTop g) target) ∨
    (∃ (q : Addr) (vm₁ : Vm) (B : Pt), s.WarmedH vm₁ ∧ Stand p l e R s m args below meth c B.U B.locs B.cells B.slots ∧ PostX ⟨T.setVm vm₁, locs, cells, slots⟩ argsL.toArray q B ∧
      Steps p.tables e below (T.setTop g) ((B.U.setTop { g with stack := rest }).pushFrame (.throwing q))) := by
  obtain ⟨mk, hnamed⟩ := Cond.code_named hcode
  obtain ⟨methM, cM, hmethM, -, -, -, -, -, -, hsigM⟩ := Cond.code_spec hnamed hcode
  have hstatic : methM.isStatic = true := Cond.static_spec hnamed hmethM hstat
  obtain ⟨kP, hkP, -⟩ := className_of_methodNamed hnamed
  have hinitP : kP.init = .initialized := Cond.initialized_spec (findClass_of_methodNamed hnamed) hkP hinit
  obtain ⟨vm₁, X₁, hstep₁⟩ := X.invokestatic hexec hown hlink hnamed hmethM hstatic hkP hinitP hy (g := g) hg (argsL := argsL) (rest := rest) (hlen _ hsigM) hstack hdg
  rcases hK m meth c ⟨T.setVm vm₁, locs, cells, slots⟩ { g with stack := rest } (.invokestatic index) mk argsL.toArray X₁ hg hsize hdg hW (X₁.named hnamed) (hpre vm₁ X₁.warmed) with ⟨v, B, X', hpost, hsteps⟩ | ⟨q, B, X', hpost, hsteps⟩
  · exact Or.inl ⟨v, vm₁, B, X₁.warmed, X', hpost, fun target h => hstep₁ _ fun acts => by rw [doInvoke_state]; exact hsteps.trans h⟩
  · exact Or.inr ⟨q, vm₁, B, X₁.warmed, X', hpost, hstep₁ _ fun acts => by rw [doInvoke_state]; exact hsteps⟩
end Calls
theorem vx_cls {s : State} {T : State} {vm₁ : Vm} {E : String} {k : ClassId} (hW : s.WarmedH vm₁) (h : (T.setVm vm₁).vm.findClass E = some k) : s.vm.findClass E = some k := by
  have h1 : vm₁.findClass E = some k := h
  rw [hW.alike.findClass] at h1
  exact h1
/-- the method's frame g, with q thrown over it -/
def vx_W (p : Program) (l : Launch) (e : Env) (R : Room) (s : State) (m : MethodId) (args : Array Value) (below : List Frame) (meth : Method) (c : Code) (H : Heap) (locs : List Loc) (cells slots : Nat) (Q : State → Prop) (g : JFrame) (q : Addr) : Prop :=
  ∀ T : State, T.heap = H → Stand p l e R s m args below meth c T locs cells slots → ∃ t, Steps p.tables e below ((T.setTop g).pushFrame (.throwing q)) t ∧ Q t
def vx_Run (p : Program) (l : Launch) (e : Env) (R : Room) (s : State) (m : MethodId) (args : Array Value) (below : List Frame) (meth : Method) (c : Code) (H : Heap) (locs : List Loc) (cells slots mc ms : Nat) (g : JFrame) (rest : List Value) (Qa : State → Outcome → State → Prop) (XC : String → State → State → Prop) (free : Addr → Prop) : Prop :=
  ∀ T : State, T.heap = H → Stand p l e R s m args below meth c T locs cells slots →
    (∃ (v : Option Value) (st₀ t T' : State) (L : List Loc), st₀.heap = H ∧ Stand p l e R s m args below meth c T' (locs ++ L) (cells + mc) (slots + ms) ∧ (∀ q ∈ L, free q.base) ∧ T'.heap = t.heap ∧ T'.vm = t.vm ∧ Qa st₀ (.returned v) t ∧
      Goes p e below T g T' { g with pc := g.pc + 3, stack := v.toList ++ rest }) ∨
    (∃ (q : Addr) (st₀ t T' : State) (L : List Loc) (E : String) (ce : Cell), st₀.heap = H ∧ Stand p l e R s m args below meth c T' (locs ++ L) (cells + mc) (slots + ms) ∧ (∀ z ∈ L, free z.base) ∧ T'.heap = t.heap ∧ T'.vm = t.vm ∧ XC E st₀ t ∧ t.heap[q]? = some ce ∧ ce.vm = .none ∧ s.vm.findClass E = some ce.cls ∧
      Steps p.tables e below (T.setTop g) ((T'.setTop { g with stack := rest }).pushFrame (.throwing q)))
def vx_X {S : Type} (px : S → Prop) (B : String → S → State → Prop) (A : Nat → Prop) : String → State → State → Prop := fun E st t => ∃ u : S, px u ∧ B E u t ∧ va_F A st t
section Runs
variable {p : Program} {l : Launch} {e : Env} {R : Room} {s : State} {m : MethodId} {args : Array Value} {below : List Frame} {meth : Method} {c : Code} {H : Heap} {locs : List Loc} {cells slots : Nat}
variable {y : MethodName} {bytes cc : ByteArray} {maxL nL mc ms n index : Nat} {ret : Option FieldType} {ws : List Cond} {rm : Room} {Pc : Array Value → State → Prop} {Qc : Array Value → State → Outcome → State → Prop} {XC : String → State → State → Prop} {free : Addr → Prop} {Ts : List Cond} {own C : String} {b : Addr} {As rest : List Value} {g : JFrame}
theorem vx_callBack (cb : CallB R s args own index y bytes maxL ret ws rm mc ms n) (hM : vx_Met l y ws rm Pc Qc XC mc ms free) (hbl : FrameBlind Pc) : vx_Back l R p e below s args y 3 8 (PreOf R mc ms Pc) (PostOf Qc mc ms free) (vx_Post XC mc ms free) := by
  obtain ⟨hrc, hrs, hfr, hlo, hws, hcw, -, hini, -⟩ := cb
  exact vx_back (bytes := bytes) (maxL := maxL) (ret := ret) hM hbl hrc hrs hfr hlo hws hcw (fun a' U hW => word_at hW (Or.inl (by first | rfl | simp [Cond.onTables, Cond.keeps, Cond.steady])) hini)
theorem vx_runV (S : CallFix p m c cc nL s args Ts own) (hM : vx_Met l y ws rm Pc Qc XC mc ms free) (cw : CallW R s args own C index y bytes maxL ret ws rm mc ms n) (hp : PreV s H C b Pc As)
    (hg : g.method = m) (hn : As.length = n) (hsize : g.locals.size = nL) (hstack : g.stack = As.reverse ++ .ref b :: rest) (hW : 2 * g.monitorRoom + (rest.map fun v => v.category).sum ≤ 8) (hdg : decode cc g.pc = .ok (.invokevirtual index, 3)) (hf : cells + mc ≤ R.cells ∧ slots + ms ≤ R.slots) :
    vx_Run p l e R s m args below meth c H locs cells slots mc ms g rest (Qc (Value.ref b :: As).toArray) XC free := by
  have hK : vx_Back l R p e below s args y 3 8 (PreOf R mc ms Pc) (PostOf Qc mc ms free) (vx_Post XC mc ms free) := vx_callBack cw.1 hM hp.1
  obtain ⟨⟨-, -, -, -, -, -, hcode, -, hy, hlen, hl⟩, hin, hse⟩ := cw
  obtain ⟨hx, hb, hml, ho, -⟩ := S
  obtain ⟨-, ⟨cellB, hcB, hoB, hclB⟩, hPc⟩ := hp
  intro T hT X
  rcases vx_callV X hx (C := C) (bytes := bytes) (maxL := maxL) (ret := ret) ho hl hin hse hcode hy hK (by rw [hT]; exact hcB) hoB hclB hg (hsize.trans hml.symm) (argsL := As) (rest := rest) (fun sig h => hn.trans (hlen sig h)) hstack hW (by rw [hb]; exact hdg)
    (fun vm₁ hW₁ => ⟨hf.1, hf.2, hPc (T.setVm vm₁) hT hW₁⟩) with ⟨v, vm₁, ⟨U', l2, c2, s2⟩, hW₁, X', ⟨g', mk, t, L, e1, e2, hq, h1, hL, h2, h3⟩, st⟩ | ⟨q, vm₁, ⟨U', l2, c2, s2⟩, hW₁, X', ⟨g', mk, t, L, E, ce, e1, e2, hq, hce, hcv, hcl, h1, hL, h2, h3⟩, st⟩
  · dsimp only [Pt.U, Pt.locs, Pt.cells, Pt.slots] at X' e1 e2 h1 h2 h3 st
    subst h1; subst h2; subst h3
    exact Or.inl ⟨v, (T.setVm vm₁).calling g' mk (Value.ref b :: As).toArray, t, U', L, hT, X', hL, e1, e2, hq, st⟩
  · dsimp only [Pt.U, Pt.locs, Pt.cells, Pt.slots] at X' e1 e2 h1 h2 h3 st hcl
    subst h1; subst h2; subst h3
    exact Or.inr ⟨q, (T.setVm vm₁).calling g' mk (Value.ref b :: As).toArray, t, U', L, E, ce, hT, X', hL, e1, e2, hq, hce, hcv, vx_cls hW₁ hcl, st⟩
theorem vx_runS (S : CallFix p m c cc nL s args Ts own) (hM : vx_Met l y ws rm Pc Qc XC mc ms free) (cw : CallB R s args own index y bytes maxL ret ws rm mc ms n ∧ (Cond.static y).before args s = true) (hp : PreS s H Pc As)
    (hg : g.method = m) (hn : As.length = n) (hsize : g.locals.size = nL) (hstack : g.stack = As.reverse ++ rest) (hW : 2 * g.monitorRoom + (rest.map fun v => v.category).sum ≤ 8) (hdg : decode cc g.pc = .ok (.invokestatic index, 3)) (hf : cells + mc ≤ R.cells ∧ slots + ms ≤ R.slots) :
    vx_Run p l e R s m args below meth c H locs cells slots mc ms g rest (Qc As.toArray) XC free := by
  have hK : vx_Back l R p e below s args y 3 8 (PreOf R mc ms Pc) (PostOf Qc mc ms free) (vx_Post XC mc ms free) := vx_callBack cw.1 hM hp.1
  obtain ⟨⟨-, -, -, -, -, -, hcode, hini, hy, hlen, hl⟩, hstt⟩ := cw
  obtain ⟨hx, hb, hml, ho, -⟩ := S
  intro T hT X
  rcases vx_callS X hx (bytes := bytes) (maxL := maxL) (ret := ret) ho hl hstt hini hcode hy hK hg (hsize.trans hml.symm) (argsL := As) (rest := rest) (fun sig h => hn.trans (hlen sig h)) hstack hW (by rw [hb]; exact hdg)
    (fun vm₁ hW₁ => ⟨hf.1, hf.2, hp.2 (T.setVm vm₁) hT hW₁⟩) with ⟨v, vm₁, ⟨U', l2, c2, s2⟩, hW₁, X', ⟨g', mk, t, L, e1, e2, hq, h1, hL, h2, h3⟩, st⟩ | ⟨q, vm₁, ⟨U', l2, c2, s2⟩, hW₁, X', ⟨g', mk, t, L, E, ce, e1, e2, hq, hce, hcv, hcl, h1, hL, h2, h3⟩, st⟩
  · dsimp only [Pt.U, Pt.locs, Pt.cells, Pt.slots] at X' e1 e2 h1 h2 h3 st
    subst h1; subst h2; subst h3
    exact Or.inl ⟨v, (T.setVm vm₁).calling g' mk As.toArray, t, U', L, hT, X', hL, e1, e2, hq, st⟩
  · dsimp only [Pt.U, Pt.locs, Pt.cells, Pt.slots] at X' e1 e2 h1 h2 h3 st hcl
    subst h1; subst h2; subst h3
    exact Or.inr ⟨q, (T.setVm vm₁).calling g' mk As.toArray, t, U', L, E, ce, hT, X', hL, e1, e2, hq, hce, hcv, vx_cls hW₁ hcl, st⟩
end Runs
section Rows
variable {p : Program} {l : Launch} {e : Env} {R : Room} {s : State} {m : MethodId} {args : Array Value} {below : List Frame} {meth : Method} {c : Code} {H : Heap} {locs : List Loc} {cells slots : Nat} {Q : State → Prop}
variable {mc ms : Nat} {free : Addr → Prop} {A0 A1 : Nat → Prop} {H0 : Heap} {a : Array Value} {pc : Nat} {ls : Array Slot} {st0 rest : List Value}
theorem vx_keep {st₀ t T' : State} {L : List Loc} (h0 : st₀.heap = H) (e1 : T'.heap = t.heap) (hS : va_S A0 H0 H locs) (hA : ∀ q, q < H.size → A1 q → A0 q) (hf : ∀ q, free q → A0 q) (hL : ∀ q ∈ L, free q.base) (hF : va_F A1 st₀ t) :
    H.size ≤ T'.heap.size ∧ (∀ q : Nat, q < H.size → ¬ A1 q → T'.heap[q]? = H[q]?) ∧ va_S A0 H0 T'.heap (locs ++ L) := by
  obtain ⟨hz, hk⟩ := hF
  rw [h0] at hz hk
  exact ⟨by rw [e1]; exact hz, fun q h1 h2 => by rw [e1]; exact hk q h1 h2,
    ⟨Nat.le_trans hS.1 (by rw [e1]; exact hz), fun q h1 h2 => by rw [e1, hk q (Nat.lt_of_lt_of_le h1 hS.1) (fun z => h2 (hA q (Nat.lt_of_lt_of_le h1 hS.1) z))]; exact hS.2.1 q h1 h2, fun q hq => by
      rcases List.mem_append.mp hq with h | h
      · exact hS.2.2 q h
      · exact hf _ (hL q h)⟩⟩
theorem vx_calli {S SX : Type} {post : Int32 → S → Prop} {px : SX → Prop} {B : S → State → Prop} {BX : String → SX → State → Prop} {AX : Nat → Prop} (hr : vx_Run p l e R s m args below meth c H locs cells slots mc ms (F0 m pc ls st0) rest (va_Qi post B A1 a) (vx_X px BX AX) free) (hS : va_S A0 H0 H locs) (hA : ∀ q, q < H.size → A1 q → A0 q) (hf : ∀ q, free q → A0 q) (hAX : ∀ q, q < H.size → AX q → A0 q)
    (kx : ∀ (E : String) (ce : Cell) (q9 : Addr) (u : SX) (t : State) (H1 : Heap) (locs1 : List Loc), t.heap = H1 → s.vm.Alike t.vm → px u → BX E u t → H.size ≤ H1.size → (∀ q : Nat, q < H.size → ¬ AX q → H1[q]? = H[q]?) → va_S A0 H0 H1 locs1 → H1[q9]? = some ce → ce.vm = .none → s.vm.findClass E = some ce.cls → vx_W p l e R s m args below meth c H1 locs1 (cells + mc) (slots + ms) Q (F0 m pc ls rest) q9)
    (kk : ∀ (r : Int32) (u : S) (t : State) (H1 : Heap) (locs1 : List Loc), t.heap = H1 → s.vm.Alike t.vm → post r u → B u t → H.size ≤ H1.size → (∀ q : Nat, q < H.size → ¬ A1 q → H1[q]? = H[q]?) → va_S A0 H0 H1 locs1 → W p l e R s m args below meth c H1 locs1 (cells + mc) (slots + ms) Q (F0 m (pc + 3) ls (.int r :: rest))) : W p l e R s m args below meth c H locs cells slots Q (F0 m pc ls st0) := by
  intro T hT X
  rcases hr T hT X with ⟨v, st₀, t, T', L, h0, X', hL, e1, e2, ⟨⟨r, u, hv, hp, hb⟩, hF⟩, st⟩ | ⟨q, st₀, t, T', L, E, ce, h0, X', hL, e1, e2, ⟨u, hp, hb, hF⟩, hce, hcv, hcl, st⟩
  · cases hv
    obtain ⟨k1, k2, k3⟩ := vx_keep h0 e1 hS hA hf hL hF
    obtain ⟨t2, a1, b1⟩ := kk r u t T'.heap (locs ++ L) e1.symm (by rw [← e2]; exact X'.warmed.alike) hp hb k1 k2 k3 T' rfl X'
    exact ⟨t2, st t2 a1, b1⟩
  · obtain ⟨k1, k2, k3⟩ := vx_keep h0 e1 hS hAX hf hL hF
    obtain ⟨t2, a1, b1⟩ := kx E ce q u t T'.heap (locs ++ L) e1.symm (by rw [← e2]; exact X'.warmed.alike) hp hb k1 k2 k3 (by rw [e1]; exact hce) hcv hcl T' rfl X'
    exact ⟨t2, st.trans a1, b1⟩
theorem vx_calll {S SX : Type} {post : Int64 → S → Prop} {px : SX → Prop} {B : S → State → Prop} {BX : String → SX → State → Prop} {AX : Nat → Prop} (hr : vx_Run p l e R s m args below meth c H locs cells slots mc ms (F0 m pc ls st0) rest (va_Ql post B A1 a) (vx_X px BX AX) free) (hS : va_S A0 H0 H locs) (hA : ∀ q, q < H.size → A1 q → A0 q) (hf : ∀ q, free q → A0 q) (hAX : ∀ q, q < H.size → AX q → A0 q)
    (kx : ∀ (E : String) (ce : Cell) (q9 : Addr) (u : SX) (t : State) (H1 : Heap) (locs1 : List Loc), t.heap = H1 → s.vm.Alike t.vm → px u → BX E u t → H.size ≤ H1.size → (∀ q : Nat, q < H.size → ¬ AX q → H1[q]? = H[q]?) → va_S A0 H0 H1 locs1 → H1[q9]? = some ce → ce.vm = .none → s.vm.findClass E = some ce.cls → vx_W p l e R s m args below meth c H1 locs1 (cells + mc) (slots + ms) Q (F0 m pc ls rest) q9)
    (kk : ∀ (r : Int64) (u : S) (t : State) (H1 : Heap) (locs1 : List Loc), t.heap = H1 → s.vm.Alike t.vm → post r u → B u t → H.size ≤ H1.size → (∀ q : Nat, q < H.size → ¬ A1 q → H1[q]? = H[q]?) → va_S A0 H0 H1 locs1 → W p l e R s m args below meth c H1 locs1 (cells + mc) (slots + ms) Q (F0 m (pc + 3) ls (.long r :: rest))) : W p l e R s m args below meth c H locs cells slots Q (F0 m pc ls st0) := by
  intro T hT X
  rcases hr T hT X with ⟨v, st₀, t, T', L, h0, X', hL, e1, e2, ⟨⟨r, u, hv, hp, hb⟩, hF⟩, st⟩ | ⟨q, st₀, t, T', L, E, ce, h0, X', hL, e1, e2, ⟨u, hp, hb, hF⟩, hce, hcv, hcl, st⟩
  · cases hv
    obtain ⟨k1, k2, k3⟩ := vx_keep h0 e1 hS hA hf hL hF
    obtain ⟨t2, a1, b1⟩ := kk r u t T'.heap (locs ++ L) e1.symm (by rw [← e2]; exact X'.warmed.alike) hp hb k1 k2 k3 T' rfl X'
    exact ⟨t2, st t2 a1, b1⟩
  · obtain ⟨k1, k2, k3⟩ := vx_keep h0 e1 hS hAX hf hL hF
    obtain ⟨t2, a1, b1⟩ := kx E ce q u t T'.heap (locs ++ L) e1.symm (by rw [← e2]; exact X'.warmed.alike) hp hb k1 k2 k3 (by rw [e1]; exact hce) hcv hcl T' rfl X'
    exact ⟨t2, st.trans a1, b1⟩
theorem vx_callf {S SX : Type} {post : UInt32 → S → Prop} {px : SX → Prop} {B : S → State → Prop} {BX : String → SX → State → Prop} {AX : Nat → Prop} (hr : vx_Run p l e R s m args below meth c H locs cells slots mc ms (F0 m pc ls st0) rest (va_Qf post B A1 a) (vx_X px BX AX) free) (hS : va_S A0 H0 H locs) (hA : ∀ q, q < H.size → A1 q → A0 q) (hf : ∀ q, free q → A0 q) (hAX : ∀ q, q < H.size → AX q → A0 q)
    (kx : ∀ (E : String) (ce : Cell) (q9 : Addr) (u : SX) (t : State) (H1 : Heap) (locs1 : List Loc), t.heap = H1 → s.vm.Alike t.vm → px u → BX E u t → H.size ≤ H1.size → (∀ q : Nat, q < H.size → ¬ AX q → H1[q]? = H[q]?) → va_S A0 H0 H1 locs1 → H1[q9]? = some ce → ce.vm = .none → s.vm.findClass E = some ce.cls → vx_W p l e R s m args below meth c H1 locs1 (cells + mc) (slots + ms) Q (F0 m pc ls rest) q9)
    (kk : ∀ (r : UInt32) (u : S) (t : State) (H1 : Heap) (locs1 : List Loc), t.heap = H1 → s.vm.Alike t.vm → post r u → B u t → H.size ≤ H1.size → (∀ q : Nat, q < H.size → ¬ A1 q → H1[q]? = H[q]?) → va_S A0 H0 H1 locs1 → W p l e R s m args below meth c H1 locs1 (cells + mc) (slots + ms) Q (F0 m (pc + 3) ls (.float r :: rest))) : W p l e R s m args below meth c H locs cells slots Q (F0 m pc ls st0) := by
  intro T hT X
  rcases hr T hT X with ⟨v, st₀, t, T', L, h0, X', hL, e1, e2, ⟨⟨r, u, hv, hp, hb⟩, hF⟩, st⟩ | ⟨q, st₀, t, T', L, E, ce, h0, X', hL, e1, e2, ⟨u, hp, hb, hF⟩, hce, hcv, hcl, st⟩
  · cases hv
    obtain ⟨k1, k2, k3⟩ := vx_keep h0 e1 hS hA hf hL hF
    obtain ⟨t2, a1, b1⟩ := kk r u t T'.heap (locs ++ L) e1.symm (by rw [← e2]; exact X'.warmed.alike) hp hb k1 k2 k3 T' rfl X'
    exact ⟨t2, st t2 a1, b1⟩
  · obtain ⟨k1, k2, k3⟩ := vx_keep h0 e1 hS hAX hf hL hF
    obtain ⟨t2, a1, b1⟩ := kx E ce q u t T'.heap (locs ++ L) e1.symm (by rw [← e2]; exact X'.warmed.alike) hp hb k1 k2 k3 (by rw [e1]; exact hce) hcv hcl T' rfl X'
    exact ⟨t2, st.trans a1, b1⟩
theorem vx_calld {S SX : Type} {post : UInt64 → S → Prop} {px : SX → Prop} {B : S → State → Prop} {BX : String → SX → State → Prop} {AX : Nat → Prop} (hr : vx_Run p l e R s m args below meth c H locs cells slots mc ms (F0 m pc ls st0) rest (va_Qd post B A1 a) (vx_X px BX AX) free) (hS : va_S A0 H0 H locs) (hA : ∀ q, q < H.size → A1 q → A0 q) (hf : ∀ q, free q → A0 q) (hAX : ∀ q, q < H.size → AX q → A0 q)
    (kx : ∀ (E : String) (ce : Cell) (q9 : Addr) (u : SX) (t : State) (H1 : Heap) (locs1 : List Loc), t.heap = H1 → s.vm.Alike t.vm → px u → BX E u t → H.size ≤ H1.size → (∀ q : Nat, q < H.size → ¬ AX q → H1[q]? = H[q]?) → va_S A0 H0 H1 locs1 → H1[q9]? = some ce → ce.vm = .none → s.vm.findClass E = some ce.cls → vx_W p l e R s m args below meth c H1 locs1 (cells + mc) (slots + ms) Q (F0 m pc ls rest) q9)
    (kk : ∀ (r : UInt64) (u : S) (t : State) (H1 : Heap) (locs1 : List Loc), t.heap = H1 → s.vm.Alike t.vm → post r u → B u t → H.size ≤ H1.size → (∀ q : Nat, q < H.size → ¬ A1 q → H1[q]? = H[q]?) → va_S A0 H0 H1 locs1 → W p l e R s m args below meth c H1 locs1 (cells + mc) (slots + ms) Q (F0 m (pc + 3) ls (.double r :: rest))) : W p l e R s m args below meth c H locs cells slots Q (F0 m pc ls st0) := by
  intro T hT X
  rcases hr T hT X with ⟨v, st₀, t, T', L, h0, X', hL, e1, e2, ⟨⟨r, u, hv, hp, hb⟩, hF⟩, st⟩ | ⟨q, st₀, t, T', L, E, ce, h0, X', hL, e1, e2, ⟨u, hp, hb, hF⟩, hce, hcv, hcl, st⟩
  · cases hv
    obtain ⟨k1, k2, k3⟩ := vx_keep h0 e1 hS hA hf hL hF
    obtain ⟨t2, a1, b1⟩ := kk r u t T'.heap (locs ++ L) e1.symm (by rw [← e2]; exact X'.warmed.alike) hp hb k1 k2 k3 T' rfl X'
    exact ⟨t2, st t2 a1, b1⟩
  · obtain ⟨k1, k2, k3⟩ := vx_keep h0 e1 hS hAX hf hL hF
    obtain ⟨t2, a1, b1⟩ := kx E ce q u t T'.heap (locs ++ L) e1.symm (by rw [← e2]; exact X'.warmed.alike) hp hb k1 k2 k3 (by rw [e1]; exact hce) hcv hcl T' rfl X'
    exact ⟨t2, st.trans a1, b1⟩
theorem vx_callv {S SX : Type} {post : S → Prop} {px : SX → Prop} {B : S → State → Prop} {BX : String → SX → State → Prop} {AX : Nat → Prop} (hr : vx_Run p l e R s m args below meth c H locs cells slots mc ms (F0 m pc ls st0) rest (va_Qv post B A1 a) (vx_X px BX AX) free) (hS : va_S A0 H0 H locs) (hA : ∀ q, q < H.size → A1 q → A0 q) (hf : ∀ q, free q → A0 q) (hAX : ∀ q, q < H.size → AX q → A0 q)
    (kx : ∀ (E : String) (ce : Cell) (q9 : Addr) (u : SX) (t : State) (H1 : Heap) (locs1 : List Loc), t.heap = H1 → s.vm.Alike t.vm → px u → BX E u t → H.size ≤ H1.size → (∀ q : Nat, q < H.size → ¬ AX q → H1[q]? = H[q]?) → va_S A0 H0 H1 locs1 → H1[q9]? = some ce → ce.vm = .none → s.vm.findClass E = some ce.cls → vx_W p l e R s m args below meth c H1 locs1 (cells + mc) (slots + ms) Q (F0 m pc ls rest) q9)
    (kk : ∀ (u : S) (t : State) (H1 : Heap) (locs1 : List Loc), t.heap = H1 → s.vm.Alike t.vm → post u → B u t → H.size ≤ H1.size → (∀ q : Nat, q < H.size → ¬ A1 q → H1[q]? = H[q]?) → va_S A0 H0 H1 locs1 → W p l e R s m args below meth c H1 locs1 (cells + mc) (slots + ms) Q (F0 m (pc + 3) ls (rest))) : W p l e R s m args below meth c H locs cells slots Q (F0 m pc ls st0) := by
  intro T hT X
  rcases hr T hT X with ⟨v, st₀, t, T', L, h0, X', hL, e1, e2, ⟨⟨u, hv, hp, hb⟩, hF⟩, st⟩ | ⟨q, st₀, t, T', L, E, ce, h0, X', hL, e1, e2, ⟨u, hp, hb, hF⟩, hce, hcv, hcl, st⟩
  · cases hv
    obtain ⟨k1, k2, k3⟩ := vx_keep h0 e1 hS hA hf hL hF
    obtain ⟨t2, a1, b1⟩ := kk u t T'.heap (locs ++ L) e1.symm (by rw [← e2]; exact X'.warmed.alike) hp hb k1 k2 k3 T' rfl X'
    exact ⟨t2, st t2 a1, b1⟩
  · obtain ⟨k1, k2, k3⟩ := vx_keep h0 e1 hS hAX hf hL hF
    obtain ⟨t2, a1, b1⟩ := kx E ce q u t T'.heap (locs ++ L) e1.symm (by rw [← e2]; exact X'.warmed.alike) hp hb k1 k2 k3 (by rw [e1]; exact hce) hcv hcl T' rfl X'
    exact ⟨t2, st.trans a1, b1⟩
/-- caught by the row x of this method's table; the rows ahead don't take it -/
theorem vx_catch {own name : String} {E : String} {ce : Cell} {q : Addr} (hown : s.vm.findClass own = some m.cls) (pre : List ExceptionTableEntry) (x : ExceptionTableEntry) (suf : List ExceptionTableEntry) (hsplit : c.exceptionTable.toList = pre ++ x :: suf)
    (hpass : ∀ z ∈ pre, covers z pc = false ∨ (z.catchType ≠ 0 ∧ ∃ nm : String, (Cond.classLink own z.catchType nm).before args s = true ∧ va_Nc E nm s)) (hx : covers x pc = true) (h0 : x.catchType ≠ 0)
    (hlink : (Cond.classLink own x.catchType name).before args s = true) (hcast : (Cond.castable E name).before args s = true) (hcell : H[q]? = some ce) (hv : ce.vm = .none) (hcl : s.vm.findClass E = some ce.cls)
    (kk : W p l e R s m args below meth c H locs cells slots Q (F0 m x.handlerPc ls [.ref q])) : vx_W p l e R s m args below meth c H locs cells slots Q (F0 m pc ls rest) q := by
  intro T hT X
  have hpl : e.platform.magicAccessors = ({} : Platform).magicAccessors := by rw [X.admits.platform]
  obtain ⟨c3, c4, hc3, hc4, hasg⟩ := Cond.castable_spec hcast
  cases Option.some.inj (hc3.symm.trans hcl)
  obtain ⟨c5, hc5, hcl5⟩ := Cond.classLink_spec hown hlink e.platform hpl
  cases Option.some.inj (hc4.symm.trans hc5)
  obtain ⟨vm', X', st⟩ := X.thenCaughtThrough q (g := F0 m pc ls rest) rfl (Steps.refl _) (by rw [hT]; exact hcell) (by rw [hv]; rfl) (by obtain ⟨k9, h9, -⟩ := Vm.findClass_spec hcl; exact ⟨k9, h9⟩) pre x suf hsplit
    (fun z hz => by
      rcases hpass z hz with h | ⟨hz0, nm, hl1, hn1⟩
      · exact Or.inl h
      · obtain ⟨c6, hc6, hcl6⟩ := Cond.classLink_spec hown hl1 e.platform hpl
        obtain ⟨a8, b8, h1, h2, h3⟩ := hn1
        cases Option.some.inj (h1.symm.trans hcl)
        cases Option.some.inj (h2.symm.trans hc6)
        exact Or.inr ⟨hz0, _, hcl6, h3⟩) hx (Or.inr ⟨h0, c4, hcl5, hasg⟩)
  obtain ⟨t, a1, b1⟩ := kk (T.setVm vm') hT X'
  exact ⟨t, st.trans a1, b1⟩
end Rows
section Ends
variable {p : Program} {l : Launch} {e : Env} {R : Room} {s : State} {m : MethodId} {args : Array Value} {below : List Frame} {meth : Method} {c : Code} {H : Heap} {locs : List Loc} {cells slots : Nat} {Q : State → Prop}
variable {mc ms : Nat} {free : Addr → Prop} {A0 A1 : Nat → Prop} {H0 : Heap} {a : Array Value} {ls : Array Slot} {st0 rest : List Value}
variable {Qc : Array Value → State → Outcome → State → Prop} {XC : String → State → State → Prop}
/-- what a body that may throw owes at its end -/
def vx_MQ (below : List Frame) (Qc : Array Value → State → Outcome → State → Prop) (XC : String → State → State → Prop) (a : Array Value) (s : State) (mc ms : Nat) (free : Addr → Prop) : State → Prop := fun t =>
  ∃ o, t.status = .running ∧ Ended t below o ∧ vx_Q Qc XC mc ms free a s o t
theorem vx_ret {g : JFrame} {mc ms : Nat} (k : W p l e R s m args below meth c H locs cells slots (MQ below Qc args s mc ms free) g) : W p l e R s m args below meth c H locs cells slots (vx_MQ below Qc XC args s mc ms free) g := by
  intro T hT X
  obtain ⟨t, a1, o, b1, b2, b3, b4⟩ := k T hT X
  exact ⟨t, a1, o, b1, b2, Or.inl ⟨b3, b4⟩⟩
/-- not caught here: it goes on to the caller -/
theorem vx_widen {g : JFrame} {q : Addr} {k n : Nat} (h1 : cells ≤ k) (h2 : slots ≤ n) (kk : vx_W p l e R s m args below meth c H locs k n Q g q) : vx_W p l e R s m args below meth c H locs cells slots Q g q := fun T hT X => kk T hT (stand_widen X h1 h2)
theorem vx_out {pc : Nat} {E : String} {ce : Cell} {q : Addr} {mc ms : Nat} (hout : ∀ x ∈ c.exceptionTable.toList, covers x pc = false) (hlocks : meth.locks = false) (hcell : H[q]? = some ce) (hv : ce.vm = .none) (hcl : s.vm.findClass E = some ce.cls)
    (hx : ∀ t : State, t.heap = H → s.vm.Alike t.vm → XC E s t) (hf : ∀ z ∈ locs, free z.base) (hc : cells ≤ mc) (hs : slots ≤ ms) :
    vx_W p l e R s m args below meth c H locs cells slots (vx_MQ below Qc XC args s mc ms free) (F0 m pc ls rest) q := by
  intro T hT X
  obtain ⟨st1, hrun, hend, hW, hsm⟩ := X.leaveThrown q (g := F0 m pc ls rest) rfl rfl rfl hout hlocks
  have hcell9 : (T.setFrames (.throwing q :: below)).heap[q]? = some ce := by
    show T.heap[q]? = some ce
    rw [hT]; exact hcell
  exact ⟨_, st1, .threw q, hrun, hend, Or.inr ⟨q, rfl, E, ce, locs, hx _ hT hW.alike, hcell9, hv, hcl, hW, hsm.mono hc hs, hf⟩⟩
theorem vx_frame {U : State} {k n : Nat} (h : s.sameButNew ({ U with vm := s.vm } : State) locs k n) : s.heap.size ≤ U.heap.size ∧ ∀ q : Nat, q < s.heap.size → (∀ z ∈ locs, z.base ≠ q) → U.heap[q]? = s.heap[q]? := by
  obtain ⟨-, h2, -, -, -, h6⟩ := h
  refine ⟨h2, fun q hq hz => ?_⟩
  obtain ⟨c9, e1, e2, e3, e4⟩ := h6 q _ (Array.getElem?_eq_getElem hq)
  have hs : c9.slots = (s.heap[q]).slots := Array.ext_getElem? fun i => e4 i fun hm => hz _ hm rfl
  have h9 : c9 = s.heap[q] := by
    rw [hs] at e2
    exact e2
  have e5 : U.heap[q]? = some c9 := e1
  rw [e5, h9, Array.getElem?_eq_getElem hq]
/-- the words of a throw but the four that speak of the heap -/
def vx_no (w : Cond) : Bool := decide (w ≠ .isRef (.static Bundle.tN "UNASSIGNED_STACK" Bundle.steD)) && decide (w ≠ .isRef (.static Bundle.tN "SUPPRESSED_SENTINEL" Bundle.listD)) && decide (w ≠ .laysStatic Bundle.tN "UNASSIGNED_STACK" Bundle.steD) && decide (w ≠ .laysStatic Bundle.tN "SUPPRESSED_SENTINEL" Bundle.listD)
def vx_at0 (own : String) (ic : Nat) (X : String) (names : List String) : List Cond := (Bundle.ownAtoms0 own ic X names).filter vx_no
def vx_atS (own : String) (ic : Nat) (X : String) (names : List String) : List Cond := (Bundle.ownAtoms own ic X names).filter vx_no
/-- a word that the tables alone decide, or a good one -/
def vx_ot (w : Cond) : Bool := w.onTables || goodWord w
theorem vx_ot_at {args a' : Array Value} {s U : State} {w : Cond} (hW : s.WarmedH U.vm) (hvm : s.vm = U.vm) (hg : vx_ot w = true) (h : w.before args s = true) : w.before a' U = true := by
  simp only [vx_ot, Bool.or_eq_true] at hg
  rcases hg with hg | hg
  · exact va_tabs hg hvm h
  · exact word_at hW (good_of_word hg) h
/-- a list's words: the good ones out of the method's own list, the others by premises of their own -/
theorem vx_hat {args : Array Value} {s : State} {L B : List Cond} (h1 : ∀ w ∈ L.filter goodWord, w.before args s = true) (h2 : ∀ w ∈ L.filter (fun w => !goodWord w), w ∈ B) (h3 : ∀ w ∈ B, w.before args s = true) : ∀ w ∈ L, w.before args s = true := by
  intro w hw
  by_cases g : goodWord w = true
  · exact h1 w (List.mem_filter.mpr ⟨hw, g⟩)
  · refine h3 w (h2 w (List.mem_filter.mpr ⟨hw, ?_⟩))
    show (!goodWord w) = true
    cases hgw : goodWord w
    · rfl
    · exact absurd hgw g
theorem vx_c {args : Array Value} {s : State} {w : Cond} {B : List Cond} (h : w.before args s = true) (t : ∀ w ∈ B, w.before args s = true) : ∀ w' ∈ w :: B, w'.before args s = true := fun w' h' => (List.mem_cons.mp h').elim (fun e => by rw [e]; exact h) (t w')
theorem vx_n {args : Array Value} {s : State} : ∀ w ∈ ([] : List Cond), w.before args s = true := fun _ h => nomatch h
theorem vx_own {args : Array Value} {s : State} {L : List Cond} (h1 : ∀ w ∈ L.filter vx_no, w.before args s = true)
    (hU : (Cond.isRef (.static Bundle.tN "UNASSIGNED_STACK" Bundle.steD)).before args s = true) (hN : (Cond.isRef (.static Bundle.tN "SUPPRESSED_SENTINEL" Bundle.listD)).before args s = true)
    (lU : (Cond.laysStatic Bundle.tN "UNASSIGNED_STACK" Bundle.steD).before args s = true) (lN : (Cond.laysStatic Bundle.tN "SUPPRESSED_SENTINEL" Bundle.listD).before args s = true) : ∀ w ∈ L, w.before args s = true := by
  intro w hw
  by_cases e1 : w = .isRef (.static Bundle.tN "UNASSIGNED_STACK" Bundle.steD)
  · rw [e1]; exact hU
  · by_cases e2 : w = .isRef (.static Bundle.tN "SUPPRESSED_SENTINEL" Bundle.listD)
    · rw [e2]; exact hN
    · by_cases e3 : w = .laysStatic Bundle.tN "UNASSIGNED_STACK" Bundle.steD
      · rw [e3]; exact lU
      · by_cases e4 : w = .laysStatic Bundle.tN "SUPPRESSED_SENTINEL" Bundle.listD
        · rw [e4]; exact lN
        · exact h1 w (List.mem_filter.mpr ⟨hw, by unfold vx_no; rw [decide_eq_true e1, decide_eq_true e2, decide_eq_true e3, decide_eq_true e4]; rfl⟩)
/-- where a static field lies, its class's statics cell in H -/
def vx_L (C n d : String) (A : Nat → Prop) (U : State) (H : Heap) : Prop := ∃ (c : ClassId) (k : Class) (i : Nat) (f : Field) (a : Nat) (cell : Cell), U.vm.findClass C = some c ∧ U.fieldFound? C n d = some (c, k, i, f) ∧ f.isStatic = true ∧ k.statics = some a ∧ H[a]? = some cell ∧ cell.vm.isStatics = true ∧ cell.cls = c ∧ f.slot < cell.slots.size ∧ k.staticTypes[f.slot]? = some f.type ∧ ¬ A a
theorem vx_L.moved {C n d : String} {A : Nat → Prop} {u U : State} {H : Heap} (hvm : u.vm.Alike U.vm) (h : vx_L C n d A u H) : vx_L C n d A U H := by
  obtain ⟨c, k, i, f, a, cell, h1, h2, h3, h4, h5, h6, h7, h8, h9, h10⟩ := h
  obtain ⟨k', hi', he⟩ := State.fieldFound?_setVm hvm h2
  exact ⟨c, k', i, f, a, cell, by rw [hvm.findClass]; exact h1, hi', h3, by rw [he]; exact h4, h5, h6, h7, h8, by rw [he]; exact h9, h10⟩
theorem vx_L.kept {C n d : String} {A : Nat → Prop} {U : State} {H H1 : Heap} (h : vx_L C n d A U H) (hq : ∀ a : Nat, a < H.size → ¬ A a → H1[a]? = H[a]?) : vx_L C n d A U H1 := by
  obtain ⟨c, k, i, f, a, cell, h1, h2, h3, h4, h5, h6, h7, h8, h9, h10⟩ := h
  exact ⟨c, k, i, f, a, cell, h1, h2, h3, h4, by rw [hq a (Array.getElem?_eq_some_iff.mp h5).1 h10]; exact h5, h6, h7, h8, h9, h10⟩
theorem vx_L.narrow {C n d : String} {A B : Nat → Prop} {U : State} {H : Heap} (h : vx_L C n d A U H) (hAB : ∀ q, B q → A q) : vx_L C n d B U H := by
  obtain ⟨c, k, i, f, a, cell, h1, h2, h3, h4, h5, h6, h7, h8, h9, h10⟩ := h
  exact ⟨c, k, i, f, a, cell, h1, h2, h3, h4, h5, h6, h7, h8, h9, fun z => h10 (hAB _ z)⟩
theorem vx_L.word {C n d : String} {A : Nat → Prop} {s : State} {args : Array Value} (h : vx_L C n d A s s.heap) : (Cond.laysStatic C n d).before args s = true := by
  obtain ⟨c, k, i, f, a, cell, h1, h2, h3, h4, h5, h6, h7, h8, h9, -⟩ := h
  show (Cond.laysStatic C n d).holds args s none s [] = true
  exact Cond.laysStatic_of h1 h2 h3 h4 h5 h6 h7 h8 h9
/-- .. and what it holds: null or some reference -/
def vx_Zq (C n d : String) (A : Nat → Prop) (U : State) (H : Heap) : Prop := va_Zq C n d A U H ∧ vx_L C n d A U H
theorem vx_Zq.moved {C n d : String} {A : Nat → Prop} {u U : State} {H : Heap} (hvm : u.vm.Alike U.vm) (h : vx_Zq C n d A u H) : vx_Zq C n d A U H := ⟨va_Zq.moved hvm h.1, vx_L.moved hvm h.2⟩
theorem vx_Zq.kept {C n d : String} {A : Nat → Prop} {U : State} {H H1 : Heap} (h : vx_Zq C n d A U H) (hq : ∀ a : Nat, a < H.size → ¬ A a → H1[a]? = H[a]?) : vx_Zq C n d A U H1 := ⟨va_Zq.kept h.1 hq, vx_L.kept h.2 hq⟩
theorem vx_Zq.narrow {C n d : String} {A B : Nat → Prop} {U : State} {H : Heap} (h : vx_Zq C n d A U H) (hAB : ∀ q, B q → A q) : vx_Zq C n d B U H := ⟨va_Zq.narrow h.1 hAB, vx_L.narrow h.2 hAB⟩
theorem vx_Zqof {args : Array Value} {s : State} {C n d : String} {A : Nat → Prop} (hl : (Cond.laysStatic C n d).before args s = true) (hini : (Cond.initialized C).before args s = true) (h : (Cond.isRef (.static C n d)).before args s = true) (hA : ∀ a : Nat, a < s.heap.size → ¬ A a) : vx_Zq C n d A s s.heap := by
  refine ⟨va_Zqof hl hini h hA, ?_⟩
  obtain ⟨c, k, i, f, a, cell, h1, h2, h3, h4, h5, h6, h7, h8, h9⟩ := Cond.laysStatic_spec hl
  exact ⟨c, k, i, f, a, cell, h1, h2, h3, h4, h5, h6, h7, h8, h9, hA a (Array.getElem?_eq_some_iff.mp h5).1⟩
theorem vx_isRef {C n d : String} {v : Value} {A : Nat → Prop} {s : State} {args : Array Value} (h : va_Z C n d v A s s.heap) (hv : v.isRef = true) : (Cond.isRef (.static C n d)).before args s = true := by
  obtain ⟨cf, kf, fi, f, a, cell, h1, h2, h3, h4, h5, h6, h7, -⟩ := h
  have he : (Term.static C n d).eval args s none [] s = some v := by
    simp [Term.eval, State.fieldNamed?, h1, h2, h4, h5, h6, h7]
  simp only [Cond.before, Cond.holds, Cond.value, he]
  cases v <;> simp_all [Value.isRef]
theorem vx_isRefq {C n d : String} {A : Nat → Prop} {s : State} {args : Array Value} (h : va_Zq C n d A s s.heap) : (Cond.isRef (.static C n d)).before args s = true := by
  rcases h with h | ⟨t, h⟩
  · exact vx_isRef h rfl
  · exact vx_isRef h rfl
/-- the same frame, seen from here: as if the method were called anew in this heap -/
theorem vx_rebase {T : State} (X : Stand p l e R s m args below meth c T locs cells slots) {R' : Room} (hf : R'.frames ≤ R.frames) (hl : R'.locals ≤ R.locals) (hc : cells + R'.cells ≤ R.cells) (hs : slots + R'.slots ≤ R.slots) :
    Stand p l e R' ((T.setVm s.vm).setFrames (.invoking m args :: below)) m args below meth c T [] 0 0 := by
  have htop : (T.setVm s.vm).topJava?.isSome := X.here.top
  have hF : ((T.setVm s.vm).setFrames (.invoking m args :: below)).frames = .invoking m args :: below := State.frames_setFrames _ (State.cur_lt_of_top htop)
  obtain ⟨g₀, hg0⟩ := Option.isSome_iff_exists.mp htop
  obtain ⟨r, hr⟩ := State.topJava?_eq_some.mp hg0
  have hl9 : e.platform.stackLimits (T.setVm s.vm).me = e.platform.stackLimits s.me := X.limits
  have hb9 : (T.setVm s.vm).me.stackBytes = s.me.stackBytes := X.bytes
  refine ⟨X.admits, X.cas, X.clock, hF, ?_, X.hears, X.method, X.code, X.here, X.tail, X.warmed, ?_, ?_, ?_⟩
  · have h := X.room
    have hU : ((T.setVm s.vm).setFrames (.invoking m args :: below)).localsInUse = s.localsInUse := by
      rw [State.localsInUse_invoking hF (meth := meth) (c := c) X.method X.code, State.localsInUse_invoking X.frames X.method X.code]
    simp only [State.hasRoom, Bool.and_eq_true, decide_eq_true_eq] at h ⊢
    obtain ⟨⟨⟨⟨h1, h2, h3, h4, h5, h6⟩, h7⟩, h8⟩, h9⟩ := h
    rw [X.frames, List.length_cons] at h2 h3
    have q1 := X.heapSize
    have q2 := X.used
    simp only [hF, hU, List.length_cons, State.stackLimits_setFrames, State.stackBytes_setFrames, hl9, hb9]
    refine ⟨⟨⟨⟨by omega, by omega, by omega, by omega, by omega, h6⟩, ?_⟩, ?_⟩, X.book⟩
    · show T.heap.size + R'.cells ≤ e.platform.maxCells
      omega
    · show T.slotsUsed + R'.slots ≤ e.platform.maxSlots
      omega
  · rw [State.stackLimits_setFrames]; rfl
  · rw [State.stackBytes_setFrames]; rfl
  · refine ⟨?_, Nat.le_refl _, Nat.le_refl _, ?_, ?_, fun a c9 h9 => ⟨c9, h9, rfl, rfl, fun _ _ => rfl⟩⟩
    · obtain ⟨t, ht, -⟩ := State.frames_cons hr
      show T.setVm s.vm = { ((T.setVm s.vm).setFrames (.invoking m args :: below)).setFrames (T.setVm s.vm).frames with heap := T.heap, slotsUsed := T.slotsUsed }
      rw [State.setFrames_setFrames, State.setFrames_self ht]
      rfl
    · show T.slotsUsed = T.slotsUsed + ((T.heap.toList.drop T.heap.size).map (·.slots.size)).sum
      rw [List.drop_eq_nil_of_le (Nat.le_of_eq Array.length_toList)]
      rfl
    · show ((T.heap.toList.drop T.heap.size).map (·.slots.size)).sum ≤ 0
      rw [List.drop_eq_nil_of_le (Nat.le_of_eq Array.length_toList)]
      exact Nat.le_refl _
/-- 'throw new E()': new; dup; invokespecial; athrow -/
theorem vx_throw0 {cc : ByteArray} {pc : Nat} (hexec : p.tables.exec = Jvm.exec) (hb : c.code = cc) (hl : l.stackTraces = false) {own cls : String} {names : List String} {ik ic mc ms : Nat} {A : Nat → Prop}
    (hown : s.vm.findClass own = some m.cls) (hcls : Bundle.fit cls = true) (hnames : ∀ n ∈ names, Bundle.fit n = true)
    (hk : (Cond.classLink own ik cls).before args s = true) (hini : (Cond.initialized cls).before args s = true) (hat : ∀ w ∈ vx_at0 own ic cls names, w.before args s = true)
    (hgood : ∀ w ∈ Cond.classLink own ik cls :: Cond.initialized cls :: vx_at0 own ic cls names, vx_ot w = true)
    (hU : vx_Zq Bundle.tN "UNASSIGNED_STACK" Bundle.steD A s s.heap) (hN : vx_Zq Bundle.tN "SUPPRESSED_SENTINEL" Bundle.listD A s s.heap) (hS : va_S A s.heap H locs) (hsize : ls.size = c.maxLocals)
    (d0 : decode cc pc = .ok (.new ik, 3)) (d3 : decode cc (pc + 3) = .ok (.dup, 1)) (d4 : decode cc (pc + 4) = .ok (.invokespecial ic, 3)) (d7 : decode cc (pc + 7) = .ok (.athrow, 1))
    (hout : ∀ x ∈ c.exceptionTable.toList, covers x (pc + 7) = false)
    (hRframes : names.length + 3 < R.frames) (hRlocals : (rest.map fun v => v.category).sum + (13 * (names.length + 1) + 42) ≤ R.locals) (hRcells : cells + 1 ≤ R.cells) (hRslots : slots + 6 ≤ R.slots) (hlocks : meth.locks = false)
    (hx : ∀ t : State, s.vm.Alike t.vm → H.size ≤ t.heap.size → (∀ q : Nat, q < H.size → t.heap[q]? = H[q]?) → XC cls s t)
    (hf : ∀ z ∈ locs, free z.base) (hc : cells + 1 ≤ mc) (hs : slots + 6 ≤ ms) :
    W p l e R s m args below meth c H locs cells slots (vx_MQ below Qc XC args s mc ms free) (F0 m pc ls rest) := by
  intro T hT X
  have htr : e.platform.stackTraces = false := (show e.platform.stackTraces = l.stackTraces by rw [X.admits.platform]).trans hl
  have Y := vx_rebase X (R' := { frames := R.frames, locals := R.locals, cells := 1, slots := 6 }) (Nat.le_refl _) (Nat.le_refl _) hRcells hRslots
  obtain ⟨s', hA⟩ : ∃ z, z = (T.setVm s.vm).setFrames (.invoking m args :: below) := ⟨_, rfl⟩
  rw [← hA] at Y
  have hvm : s'.vm = s.vm := by rw [hA]; rfl
  have hhp : s'.heap = H := by rw [hA]; exact hT
  have hW0 : s.WarmedH s'.vm := by rw [hvm]; exact State.WarmedH.refl s
  have hat' : ∀ w ∈ vx_at0 own ic cls names, w.before args s' = true := fun w hw => vx_ot_at hW0 hvm.symm (hgood w (List.mem_cons_of_mem _ (List.mem_cons_of_mem _ hw))) (hat w hw)
  have hk' : (Cond.classLink own ik cls).before args s' = true := vx_ot_at hW0 hvm.symm (hgood _ List.mem_cons_self) hk
  have hini' : (Cond.initialized cls).before args s' = true := vx_ot_at hW0 hvm.symm (hgood _ (List.mem_cons_of_mem _ List.mem_cons_self)) hini
  have hU' : vx_Zq Bundle.tN "UNASSIGNED_STACK" Bundle.steD A s' s'.heap := by rw [hhp]; exact vx_Zq.moved hW0.alike (hU.kept hS.2.1)
  have hN' : vx_Zq Bundle.tN "SUPPRESSED_SENTINEL" Bundle.listD A s' s'.heap := by rw [hhp]; exact vx_Zq.moved hW0.alike (hN.kept hS.2.1)
  have h : ∀ w ∈ Bundle.ownAtoms0 own ic cls names, w.before args s' = true := vx_own hat' (vx_isRefq hU'.1) (vx_isRefq hN'.1) hU'.2.word hN'.2.word
  have hown' : s'.vm.findClass own = some m.cls := by rw [hvm]; exact hown
  have hins : (Cond.instantiable cls 6).before args s' = true := h _ (by simp [Bundle.ownAtoms0])
  obtain ⟨vm₁, cX, kX, hfX, hkX, -, -, X₁, st1⟩ := Y.newCold hexec (own := own) (C := cls) (index := ik) (n := 6) hown' hk' hins hini'
    (g := F0 m pc ls rest) rfl (by rw [hb]; exact d0) (Nat.le_refl _) (Nat.le_refl _)
  generalize hT1 : (T.setVm vm₁).pushCell { cls := cX, slots := kX.instanceTypes.map defaultValue, vm := .none } = T1 at X₁ st1
  have hcat : (Value.ref T.heap.size).category = 1 := rfl
  have hcellA : T1.heap[T.heap.size]? = some (freshCell cX kX) := by rw [← hT1]; exact State.heap_pushCell_size _ _
  have d3' : decode c.code (pc + 3) = .ok (.dup, 1) := by rw [hb]; exact d3
  obtain ⟨U, hsteps, hrun, hend, hW, hsame, ce, hce, hO⟩ := X₁.ctorThrow0 hexec htr (own := own) (cls := cls) (names := names) (ic := ic) hown' hcls hnames h (fun x hx => nomatch hx) hfX hkX hcellA (by rw [hhp, hT]; exact Nat.le_refl _)
    (g := { method := m, pc := pc + 4, locals := ls, stack := .ref T.heap.size :: .ref T.heap.size :: rest, locked := none }) rfl hsize rfl rfl (rest := rest) rfl
    (by rw [hb]; exact d4) (by rw [hb]; exact d7) hout hRframes (by simp only [List.map_cons, List.sum_cons, hcat]; omega) hlocks
  obtain ⟨f1, f2⟩ := vx_frame hsame
  rw [hhp] at f1 f2
  have hWs : s.WarmedH U.vm := State.WarmedH.trans hW0 hW
  have hcl : s.vm.findClass cls = some ce.cls := by
    have h9 := hO.cls
    rw [hvm] at h9
    exact h9
  have hall : s.sameButNew ({ U with vm := s.vm } : State) locs mc ms := by
    subst hA
    obtain ⟨e1, e2⟩ := hsame
    rw [State.setFrames_setFrames] at e1
    have h2 : (T.setVm s.vm).sameButNew ({ U with vm := s.vm } : State) [] (0 + 1) (0 + 6) := ⟨e1, e2⟩
    have h3 := X.same.trans h2
    rw [List.append_nil] at h3
    exact h3.mono hc hs
  refine ⟨U, ?_, .threw T.heap.size, hrun, hend, Or.inr ⟨T.heap.size, rfl, cls, ce, locs, hx U hWs.alike f1 (fun q hq => f2 q hq (fun z hz => nomatch hz)), hce, hO.vm, hcl, hWs, hall, hf⟩⟩
  refine st1 _ ?_
  show Steps p.tables e below (T1.setTop { method := m, pc := pc + 3, locals := ls, stack := .ref T.heap.size :: rest, locked := none }) _
  jvm_step X₁.here [X₁.here.top, hexec, d3', Value.category]
  exact hsteps
/-- 'throw new E("text")': new; dup; ldc; invokespecial; athrow -/
theorem vx_throwS {cc : ByteArray} {pc : Nat} (hexec : p.tables.exec = Jvm.exec) (hb : c.code = cc) (hl : l.stackTraces = false) {own cls text : String} {names : List String} {ik is ic mc ms sa : Nat} {A : Nat → Prop}
    (hown : s.vm.findClass own = some m.cls) (hcls : Bundle.fit cls = true) (hnames : ∀ n ∈ names, Bundle.fit n = true)
    (hk : (Cond.classLink own ik cls).before args s = true) (hini : (Cond.initialized cls).before args s = true) (hstr : vk_R own is text sa s) (hat : ∀ w ∈ vx_atS own ic cls names, w.before args s = true)
    (hgood : ∀ w ∈ Cond.classLink own ik cls :: Cond.initialized cls :: vx_atS own ic cls names, vx_ot w = true)
    (hU : vx_Zq Bundle.tN "UNASSIGNED_STACK" Bundle.steD A s s.heap) (hN : vx_Zq Bundle.tN "SUPPRESSED_SENTINEL" Bundle.listD A s s.heap) (hS : va_S A s.heap H locs) (hsize : ls.size = c.maxLocals)
    (d0 : decode cc pc = .ok (.new ik, 3)) (d3 : decode cc (pc + 3) = .ok (.dup, 1)) (d4 : decode cc (pc + 4) = .ok (.ldc is, 2)) (d6 : decode cc (pc + 6) = .ok (.invokespecial ic, 3)) (d9 : decode cc (pc + 9) = .ok (.athrow, 1))
    (hout : ∀ x ∈ c.exceptionTable.toList, covers x (pc + 9) = false)
    (hRframes : names.length + 3 < R.frames) (hRlocals : (rest.map fun v => v.category).sum + (13 * (names.length + 1) + 43) ≤ R.locals) (hRcells : cells + 1 ≤ R.cells) (hRslots : slots + 6 ≤ R.slots) (hlocks : meth.locks = false)
    (hx : ∀ t : State, s.vm.Alike t.vm → H.size ≤ t.heap.size → (∀ q : Nat, q < H.size → t.heap[q]? = H[q]?) → XC cls s t)
    (hf : ∀ z ∈ locs, free z.base) (hc : cells + 1 ≤ mc) (hs : slots + 6 ≤ ms) :
    W p l e R s m args below meth c H locs cells slots (vx_MQ below Qc XC args s mc ms free) (F0 m pc ls rest) := by
  intro T hT X
  have htr : e.platform.stackTraces = false := (show e.platform.stackTraces = l.stackTraces by rw [X.admits.platform]).trans hl
  have Y := vx_rebase X (R' := { frames := R.frames, locals := R.locals, cells := 1, slots := 6 }) (Nat.le_refl _) (Nat.le_refl _) hRcells hRslots
  obtain ⟨s', hA⟩ : ∃ z, z = (T.setVm s.vm).setFrames (.invoking m args :: below) := ⟨_, rfl⟩
  rw [← hA] at Y
  have hvm : s'.vm = s.vm := by rw [hA]; rfl
  have hhp : s'.heap = H := by rw [hA]; exact hT
  have hW0 : s.WarmedH s'.vm := by rw [hvm]; exact State.WarmedH.refl s
  have hat' : ∀ w ∈ vx_atS own ic cls names, w.before args s' = true := fun w hw => vx_ot_at hW0 hvm.symm (hgood w (List.mem_cons_of_mem _ (List.mem_cons_of_mem _ hw))) (hat w hw)
  have hk' : (Cond.classLink own ik cls).before args s' = true := vx_ot_at hW0 hvm.symm (hgood _ List.mem_cons_self) hk
  have hini' : (Cond.initialized cls).before args s' = true := vx_ot_at hW0 hvm.symm (hgood _ (List.mem_cons_of_mem _ List.mem_cons_self)) hini
  have hU' : vx_Zq Bundle.tN "UNASSIGNED_STACK" Bundle.steD A s' s'.heap := by rw [hhp]; exact vx_Zq.moved hW0.alike (hU.kept hS.2.1)
  have hN' : vx_Zq Bundle.tN "SUPPRESSED_SENTINEL" Bundle.listD A s' s'.heap := by rw [hhp]; exact vx_Zq.moved hW0.alike (hN.kept hS.2.1)
  have h : ∀ w ∈ Bundle.ownAtoms own ic cls names, w.before args s' = true := vx_own hat' (vx_isRefq hU'.1) (vx_isRefq hN'.1) hU'.2.word hN'.2.word
  have hown' : s'.vm.findClass own = some m.cls := by rw [hvm]; exact hown
  have hins : (Cond.instantiable cls 6).before args s' = true := h _ (by simp [Bundle.ownAtoms])
  obtain ⟨vm₁, cX, kX, hfX, hkX, -, -, X₁, st1⟩ := Y.newCold hexec (own := own) (C := cls) (index := ik) (n := 6) hown' hk' hins hini'
    (g := F0 m pc ls rest) rfl (by rw [hb]; exact d0) (Nat.le_refl _) (Nat.le_refl _)
  generalize hT1 : (T.setVm vm₁).pushCell { cls := cX, slots := kX.instanceTypes.map defaultValue, vm := .none } = T1 at X₁ st1
  have hcat : (Value.ref T.heap.size).category = 1 := rfl
  have hcellA : T1.heap[T.heap.size]? = some (freshCell cX kX) := by rw [← hT1]; exact State.heap_pushCell_size _ _
  have d3' : decode c.code (pc + 3) = .ok (.dup, 1) := by rw [hb]; exact d3
  have d4' : decode c.code (pc + 4) = .ok (.ldc is, 2) := by rw [hb]; exact d4
  have hstr' : vk_R own is text sa s' := vk_R.warm hW0 hstr
  obtain ⟨U, hsteps, hrun, hend, hW, hsame, ce, hce, hO⟩ := X₁.ctorThrowS hexec htr (own := own) (cls := cls) (names := names) (ic := ic) hown' hcls hnames h (fun x hx => nomatch hx) hfX hkX hcellA (by rw [hhp, hT]; exact Nat.le_refl _) (msg := .ref sa) rfl
    (g := { method := m, pc := pc + 6, locals := ls, stack := .ref sa :: .ref T.heap.size :: .ref T.heap.size :: rest, locked := none }) rfl hsize rfl rfl (rest := rest) rfl
    (by rw [hb]; exact d6) (by rw [hb]; exact d9) hout hRframes (by simp only [List.map_cons, List.sum_cons, hcat]; omega) hlocks
  obtain ⟨f1, f2⟩ := vx_frame hsame
  rw [hhp] at f1 f2
  have hWs : s.WarmedH U.vm := State.WarmedH.trans hW0 hW
  have hcl : s.vm.findClass cls = some ce.cls := by
    have h9 := hO.cls
    rw [hvm] at h9
    exact h9
  have hall : s.sameButNew ({ U with vm := s.vm } : State) locs mc ms := by
    subst hA
    obtain ⟨e1, e2⟩ := hsame
    rw [State.setFrames_setFrames] at e1
    have h2 : (T.setVm s.vm).sameButNew ({ U with vm := s.vm } : State) [] (0 + 1) (0 + 6) := ⟨e1, e2⟩
    have h3 := X.same.trans h2
    rw [List.append_nil] at h3
    exact h3.mono hc hs
  refine ⟨U, ?_, .threw T.heap.size, hrun, hend, Or.inr ⟨T.heap.size, rfl, cls, ce, locs, hx U hWs.alike f1 (fun q hq => f2 q hq (fun z hz => nomatch hz)), hce, hO.vm, hcl, hWs, hall, hf⟩⟩
  refine st1 _ ?_
  show Steps p.tables e below (T1.setTop { method := m, pc := pc + 3, locals := ls, stack := .ref T.heap.size :: rest, locked := none }) _
  jvm_step X₁.here [X₁.here.top, hexec, d3', Value.category]
  exact X₁.ldcString hexec (own := own) (text := text) (index := is) (a := sa) hown' hstr'.1 hstr'.2
    (g := { method := m, pc := pc + 4, locals := ls, stack := .ref T.heap.size :: .ref T.heap.size :: rest, locked := none }) rfl d4' _ hsteps
/-- 'throw new E("text")', the text by a wide index -/
theorem vx_throwSW {cc : ByteArray} {pc : Nat} (hexec : p.tables.exec = Jvm.exec) (hb : c.code = cc) (hl : l.stackTraces = false) {own cls text : String} {names : List String} {ik is ic mc ms sa : Nat} {A : Nat → Prop}
    (hown : s.vm.findClass own = some m.cls) (hcls : Bundle.fit cls = true) (hnames : ∀ n ∈ names, Bundle.fit n = true)
    (hk : (Cond.classLink own ik cls).before args s = true) (hini : (Cond.initialized cls).before args s = true) (hstr : vk_R own is text sa s) (hat : ∀ w ∈ vx_atS own ic cls names, w.before args s = true)
    (hgood : ∀ w ∈ Cond.classLink own ik cls :: Cond.initialized cls :: vx_atS own ic cls names, vx_ot w = true)
    (hU : vx_Zq Bundle.tN "UNASSIGNED_STACK" Bundle.steD A s s.heap) (hN : vx_Zq Bundle.tN "SUPPRESSED_SENTINEL" Bundle.listD A s s.heap) (hS : va_S A s.heap H locs) (hsize : ls.size = c.maxLocals)
    (d0 : decode cc pc = .ok (.new ik, 3)) (d3 : decode cc (pc + 3) = .ok (.dup, 1)) (d4 : decode cc (pc + 4) = .ok (.ldc_w is, 3)) (d7 : decode cc (pc + 7) = .ok (.invokespecial ic, 3)) (d10 : decode cc (pc + 10) = .ok (.athrow, 1))
    (hout : ∀ x ∈ c.exceptionTable.toList, covers x (pc + 10) = false)
    (hRframes : names.length + 3 < R.frames) (hRlocals : (rest.map fun v => v.category).sum + (13 * (names.length + 1) + 43) ≤ R.locals) (hRcells : cells + 1 ≤ R.cells) (hRslots : slots + 6 ≤ R.slots) (hlocks : meth.locks = false)
    (hx : ∀ t : State, s.vm.Alike t.vm → H.size ≤ t.heap.size → (∀ q : Nat, q < H.size → t.heap[q]? = H[q]?) → XC cls s t)
    (hf : ∀ z ∈ locs, free z.base) (hc : cells + 1 ≤ mc) (hs : slots + 6 ≤ ms) :
    W p l e R s m args below meth c H locs cells slots (vx_MQ below Qc XC args s mc ms free) (F0 m pc ls rest) := by
  intro T hT X
  have htr : e.platform.stackTraces = false := (show e.platform.stackTraces = l.stackTraces by rw [X.admits.platform]).trans hl
  have Y := vx_rebase X (R' := { frames := R.frames, locals := R.locals, cells := 1, slots := 6 }) (Nat.le_refl _) (Nat.le_refl _) hRcells hRslots
  obtain ⟨s', hA⟩ : ∃ z, z = (T.setVm s.vm).setFrames (.invoking m args :: below) := ⟨_, rfl⟩
  rw [← hA] at Y
  have hvm : s'.vm = s.vm := by rw [hA]; rfl
  have hhp : s'.heap = H := by rw [hA]; exact hT
  have hW0 : s.WarmedH s'.vm := by rw [hvm]; exact State.WarmedH.refl s
  have hat' : ∀ w ∈ vx_atS own ic cls names, w.before args s' = true := fun w hw => vx_ot_at hW0 hvm.symm (hgood w (List.mem_cons_of_mem _ (List.mem_cons_of_mem _ hw))) (hat w hw)
  have hk' : (Cond.classLink own ik cls).before args s' = true := vx_ot_at hW0 hvm.symm (hgood _ List.mem_cons_self) hk
  have hini' : (Cond.initialized cls).before args s' = true := vx_ot_at hW0 hvm.symm (hgood _ (List.mem_cons_of_mem _ List.mem_cons_self)) hini
  have hU' : vx_Zq Bundle.tN "UNASSIGNED_STACK" Bundle.steD A s' s'.heap := by rw [hhp]; exact vx_Zq.moved hW0.alike (hU.kept hS.2.1)
  have hN' : vx_Zq Bundle.tN "SUPPRESSED_SENTINEL" Bundle.listD A s' s'.heap := by rw [hhp]; exact vx_Zq.moved hW0.alike (hN.kept hS.2.1)
  have h : ∀ w ∈ Bundle.ownAtoms own ic cls names, w.before args s' = true := vx_own hat' (vx_isRefq hU'.1) (vx_isRefq hN'.1) hU'.2.word hN'.2.word
  have hown' : s'.vm.findClass own = some m.cls := by rw [hvm]; exact hown
  have hins : (Cond.instantiable cls 6).before args s' = true := h _ (by simp [Bundle.ownAtoms])
  obtain ⟨vm₁, cX, kX, hfX, hkX, -, -, X₁, st1⟩ := Y.newCold hexec (own := own) (C := cls) (index := ik) (n := 6) hown' hk' hins hini'
    (g := F0 m pc ls rest) rfl (by rw [hb]; exact d0) (Nat.le_refl _) (Nat.le_refl _)
  generalize hT1 : (T.setVm vm₁).pushCell { cls := cX, slots := kX.instanceTypes.map defaultValue, vm := .none } = T1 at X₁ st1
  have hcat : (Value.ref T.heap.size).category = 1 := rfl
  have hcellA : T1.heap[T.heap.size]? = some (freshCell cX kX) := by rw [← hT1]; exact State.heap_pushCell_size _ _
  have d3' : decode c.code (pc + 3) = .ok (.dup, 1) := by rw [hb]; exact d3
  have d4' : decode c.code (pc + 4) = .ok (.ldc_w is, 3) := by rw [hb]; exact d4
  have hstr' : vk_R own is text sa s' := vk_R.warm hW0 hstr
  obtain ⟨U, hsteps, hrun, hend, hW, hsame, ce, hce, hO⟩ := X₁.ctorThrowS hexec htr (own := own) (cls := cls) (names := names) (ic := ic) hown' hcls hnames h (fun x hx => nomatch hx) hfX hkX hcellA (by rw [hhp, hT]; exact Nat.le_refl _) (msg := .ref sa) rfl
    (g := { method := m, pc := pc + 7, locals := ls, stack := .ref sa :: .ref T.heap.size :: .ref T.heap.size :: rest, locked := none }) rfl hsize rfl rfl (rest := rest) rfl
    (by rw [hb]; exact d7) (by rw [hb]; exact d10) hout hRframes (by simp only [List.map_cons, List.sum_cons, hcat]; omega) hlocks
  obtain ⟨f1, f2⟩ := vx_frame hsame
  rw [hhp] at f1 f2
  have hWs : s.WarmedH U.vm := State.WarmedH.trans hW0 hW
  have hcl : s.vm.findClass cls = some ce.cls := by
    have h9 := hO.cls
    rw [hvm] at h9
    exact h9
  have hall : s.sameButNew ({ U with vm := s.vm } : State) locs mc ms := by
    subst hA
    obtain ⟨e1, e2⟩ := hsame
    rw [State.setFrames_setFrames] at e1
    have h2 : (T.setVm s.vm).sameButNew ({ U with vm := s.vm } : State) [] (0 + 1) (0 + 6) := ⟨e1, e2⟩
    have h3 := X.same.trans h2
    rw [List.append_nil] at h3
    exact h3.mono hc hs
  refine ⟨U, ?_, .threw T.heap.size, hrun, hend, Or.inr ⟨T.heap.size, rfl, cls, ce, locs, hx U hWs.alike f1 (fun q hq => f2 q hq (fun z hz => nomatch hz)), hce, hO.vm, hcl, hWs, hall, hf⟩⟩
  refine st1 _ ?_
  show Steps p.tables e below (T1.setTop { method := m, pc := pc + 3, locals := ls, stack := .ref T.heap.size :: rest, locked := none }) _
  jvm_step X₁.here [X₁.here.top, hexec, d3', Value.category]
  exact X₁.ldcStringW hexec (own := own) (text := text) (index := is) (a := sa) hown' hstr'.1 hstr'.2
    (g := { method := m, pc := pc + 4, locals := ls, stack := .ref T.heap.size :: .ref T.heap.size :: rest, locked := none }) rfl d4' _ hsteps
end Ends
section Bodies
variable {l : Launch}
theorem vx_ofW {y : MethodName} {ws ws' : List Cond} {rm : Room} {Pc : Array Value → State → Prop} {Qc : Array Value → State → Outcome → State → Prop} {XC : String → State → State → Prop} {mc ms : Nat} {free : Addr → Prop} {cc : ByteArray} {maxL : Nat} {ret : Option FieldType}
    (hy : plainName y.cls = true) (hw : ws = Cond.code y cc maxL ret :: ws')
    (body : ∀ p e s m args below meth c s₁, BodyLoose p l y (headSpec ws rm) cc maxL ret e s m args below meth c s₁ → c.maxLocals = maxL → (∀ x ∈ c.exceptionTable.toList, False) → Pc args s →
      W p l e (headSpec ws rm).room s m args below meth c s.heap [] 0 0 (vx_MQ below Qc XC args s mc ms free) (entryFrame m args maxL)) : vx_Met l y ws rm Pc Qc XC mc ms free := by
  refine MetFree.of_bodyS (code := cc) (maxLocals := maxL) (ret := ret) hy ?_ ?_
  · intro args s m h hn
    obtain ⟨meth, c, h1, h2, h3, h4, h5, h6, -, -⟩ := Cond.code_spec hn (atoms_spec (ws := ws) h _ (by rw [hw]; exact List.mem_cons_self))
    exact ⟨meth, c, h1, h2, h3, h4, h5, h6⟩
  · intro p e s m args below meth c s₁ B hml hP _
    have hh0 : s₁.heap = s.heap := by rw [B.state]; rfl
    have ht : ∀ x ∈ c.exceptionTable.toList, False := by
      obtain ⟨meth9, c9, h1, h2, -, -, -, -, h7, -⟩ := Cond.code_spec B.named (atoms_spec (ws := ws) B.pre _ (by rw [hw]; exact List.mem_cons_self))
      cases Option.some.inj (h1.symm.trans B.method)
      cases Option.some.inj (h2.symm.trans (Stand.of_body B).code)
      intro x hx
      rw [Array.isEmpty_iff.mp h7] at hx
      cases hx
    obtain ⟨t, a1, o, b1, b2, b3⟩ := body p e s m args below meth c s₁ B hml ht hP s₁ hh0 (Stand.of_body B)
    exact ⟨t, o, a1, b1, b2, b3⟩
/-- the table of a body with handlers -/
theorem vx_table {p : Program} {x y : MethodName} {S : Spec} {cc bytes : ByteArray} {maxL maxL' : Nat} {ret ret' : Option FieldType} {e : Env} {s s₁ : State} {m : MethodId} {args : Array Value} {below : List Frame} {meth : Method} {c : Code} {hh : List (Nat × Nat × Nat × Nat)}
    (B : BodyLoose p l y S cc maxL ret e s m args below meth c s₁) (h : (Cond.codeWith y bytes maxL' ret' hh).before args s = true) : c.exceptionTable.toList = tableOf hh := by
  obtain ⟨m9, meth9, c9, hn9, h1, h2, -, -, h6, -⟩ := Cond.codeWith_spec h
  cases Option.some.inj (hn9.symm.trans B.named)
  cases Option.some.inj (h1.symm.trans B.method)
  cases Option.some.inj (h2.symm.trans (Stand.of_body B).code)
  rw [← h6, table_eq]
end Bodies
end VXA
/-! ===== END ===== -/
/-! ===== BEGIN a static call of a method with an exception table ===== -/
section VXS
variable {p : Program} {l : Launch} {e : Env} {R : Room} {s : State} {m : MethodId} {args : Array Value} {below : List Frame} {meth : Method} {c : Code} {T : State} {H : Heap} {locs : List Loc} {cells slots : Nat}
abbrev vx_CSW (R : Room) (s : State) (args : Array Value) (own : String) (index : Nat) (y : MethodName) (bytes : ByteArray) (maxL : Nat) (ret : Option FieldType) (hh : List (Nat × Nat × Nat × Nat)) (ws : List Cond) (rm : Room) (mc ms n : Nat) : Prop :=
  (rm.cells = mc ∧ rm.slots = ms ∧ rm.frames + 1 ≤ R.frames ∧ 8 + (maxL + 11) + rm.locals ≤ R.locals ∧ (∀ w ∈ ws, ∀ (a' : Array Value) (U : State), s.WarmedH U.vm → w.before a' U = true) ∧ Cond.codeWith y bytes maxL ret hh ∈ ws) ∧
  (Cond.codeWith y bytes maxL ret hh).before args s = true ∧ (Cond.initialized y.cls).before args s = true ∧ (y.cls ≠ "java/lang/invoke/MethodHandle" ∧ y.cls ≠ "java/lang/invoke/VarHandle") ∧
  (∀ sig, parseMethodDescriptor y.desc = some sig → n = sig.parameters.length) ∧ (Cond.methodLink own index y).before args s = true ∧ (Cond.static y).before args s = true
theorem vx_cwSW {own : String} {index maxL mc ms : Nat} {y : MethodName} {bytes : ByteArray} {ret : Option FieldType} {hh : List (Nat × Nat × Nat × Nat)} {Ts ws ws' : List Cond} {rm : Room} (n : Nat) (ht : ∀ w ∈ Ts, w.before args s = true) (hT : GoodIn Ts (va_wsS own index y ws)) (hw : ws = Cond.codeWith y bytes maxL ret hh :: ws') (hrc : rm.cells = mc) (hrs : rm.slots = ms)
    (hd : y.cls ≠ "java/lang/invoke/MethodHandle" ∧ y.cls ≠ "java/lang/invoke/VarHandle" ∧ (parseMethodDescriptor y.desc).map (fun d => d.parameters.length) = some n) (hR : rm.frames + 1 ≤ R.frames ∧ 8 + (maxL + 11) + rm.locals ≤ R.locals) :
    vx_CSW R s args own index y bytes maxL ret hh ws rm mc ms n := by
  have ok : ∀ w ∈ va_wsS own index y ws, w.before args s = true := fun w h => ht w (hT w h).1
  have hG : GoodIn Ts ws := fun w h => hT w (by unfold va_wsS; exact List.mem_append_right _ h)
  have hc : Cond.codeWith y bytes maxL ret hh ∈ ws := by rw [hw]; exact List.mem_cons_self
  refine ⟨⟨hrc, hrs, hR.1, hR.2, pay_in ht hG, hc⟩, ht _ (hG _ hc).1, ok _ (by simp [va_wsS]), ⟨hd.1, hd.2.1⟩, fun sig h => ?_, ok _ (by simp [va_wsS]), ok _ (by simp [va_wsS])⟩
  have h2 := hd.2.2
  rw [h] at h2
  exact (Option.some.inj h2).symm
theorem vx_callSW (X : Stand p l e R s m args below meth c T locs cells slots) (hexec : p.tables.exec = Jvm.exec) {own : String} {index : Nat} {y : MethodName} {bytes : ByteArray} {maxL : Nat} {ret : Option FieldType} {hh : List (Nat × Nat × Nat × Nat)}
    (hown : s.vm.findClass own = some m.cls) (hlink : (Cond.methodLink own index y).before args s = true) (hstat : (Cond.static y).before args s = true) (hinit : (Cond.initialized y.cls).before args s = true)
    (hcode : (Cond.codeWith y bytes maxL ret hh).before args s = true) (hy : y.cls ≠ "java/lang/invoke/MethodHandle" ∧ y.cls ≠ "java/lang/invoke/VarHandle")
    {W9 : Nat} {Pre : Pt → Array Value → Prop} {Post : Pt → Array Value → Option Value → Pt → Prop} (hK : Back l R p e below s args y 3 W9 Pre Post)
    {g : JFrame} (hg : g.method = m) (hsize : g.locals.size = c.maxLocals) {argsL rest : List Value} (hlen : ∀ sig, parseMethodDescriptor y.desc = some sig → argsL.length = sig.parameters.length)
    (hstack : g.stack = argsL.reverse ++ rest) (hW : 2 * g.monitorRoom + (rest.map fun v => v.category).sum ≤ W9) (hdg : decode c.code g.pc = .ok (.invokestatic index, 3))
    (hpre : ∀ vm₁, s.WarmedH vm₁ → Pre ⟨T.setVm vm₁, locs, cells, slots⟩ argsL.toArray) :
    ∃ (v : Option Value) (vm₁ : Vm) (B : Pt), s.WarmedH vm₁ ∧ Stand p l e R s m args below meth c B.U B.locs B.cells B.slots ∧ Post ⟨T.setVm vm₁, locs, cells, slots⟩ argsL.toArray v B ∧
      ∀ target, Steps p.tables e below (B.U.setTop { g with pc := g.pc + 3, stack := v.toList ++ rest }) target → Steps p.tables e below (T.setTop g) target := by
  obtain ⟨mk, methM, cM, hnamed, hmethM, -, -, -, -, -, -, hsigM⟩ := Cond.codeWith_spec hcode
  have hstatic : methM.isStatic = true := Cond.static_spec hnamed hmethM hstat
  obtain ⟨kP, hkP, -⟩ := className_of_methodNamed hnamed
  have hinitP : kP.init = .initialized := Cond.initialized_spec (findClass_of_methodNamed hnamed) hkP hinit
  obtain ⟨vm₁, X₁, hstep₁⟩ := X.invokestatic hexec hown hlink hnamed hmethM hstatic hkP hinitP hy (g := g) hg (argsL := argsL) (rest := rest) (hlen _ hsigM) hstack hdg
  obtain ⟨v, B, X', hpost, hsteps⟩ := hK m meth c ⟨T.setVm vm₁, locs, cells, slots⟩ { g with stack := rest } (.invokestatic index) mk argsL.toArray X₁ hg hsize hdg hW (X₁.named hnamed) (hpre vm₁ X₁.warmed)
  exact ⟨v, vm₁, B, X₁.warmed, X', hpost, fun target h => hstep₁ _ fun acts => by rw [doInvoke_state]; exact hsteps.trans h⟩
theorem vx_runSW {y : MethodName} {bytes cc : ByteArray} {maxL nL mc ms n index : Nat} {ret : Option FieldType} {hh : List (Nat × Nat × Nat × Nat)} {ws : List Cond} {rm : Room} {Pc : Array Value → State → Prop} {Qc : Array Value → State → Outcome → State → Prop} {free : Addr → Prop} {Ts : List Cond} {own : String} {As rest : List Value} {g : JFrame}
    (S : CallFix p m c cc nL s args Ts own) (hM : Met l y ws rm Pc Qc mc ms free) (cw : vx_CSW R s args own index y bytes maxL ret hh ws rm mc ms n) (hp : PreS s H Pc As)
    (hg : g.method = m) (hn : As.length = n) (hsize : g.locals.size = nL) (hstack : g.stack = As.reverse ++ rest) (hW : 2 * g.monitorRoom + (rest.map fun v => v.category).sum ≤ 8) (hdg : decode cc g.pc = .ok (.invokestatic index, 3)) (hf : cells + mc ≤ R.cells ∧ slots + ms ≤ R.slots) :
    va_Run p l e R s m args below meth c H locs cells slots mc ms g rest (Qc As.toArray) (free) := by
  obtain ⟨⟨hrc, hrs, hfr, hlo, hws, hcw⟩, hcode, hini, hy, hlen, hl, hstt⟩ := cw
  have hK : Back l R p e below s args y 3 8 (PreOf R mc ms Pc) (PostOf Qc mc ms free) := va_backW (hh := hh) (bytes := bytes) (maxL := maxL) (ret := ret) hM hp.1 hrc hrs hfr hlo hws hcw (fun a' U hW => word_at hW (Or.inl (by first | rfl | simp [Cond.onTables, Cond.keeps, Cond.steady])) hini)
  obtain ⟨hx, hb, hml, ho, -⟩ := S
  intro T hT X
  obtain ⟨v, vm₁, ⟨U', l2, c2, s2⟩, hW₁, X', ⟨g', mk, t, L, e1, e2, hq, h1, hL, h2, h3⟩, st⟩ := vx_callSW X hx (hh := hh) (bytes := bytes) (maxL := maxL) (ret := ret) ho hl hstt hini hcode hy hK hg (hsize.trans hml.symm) (argsL := As) (rest := rest) (fun sig h => hn.trans (hlen sig h)) hstack hW (by rw [hb]; exact hdg)
    (fun vm₁ hW₁ => ⟨hf.1, hf.2, hp.2 (T.setVm vm₁) hT hW₁⟩)
  dsimp only [Pt.U, Pt.locs, Pt.cells, Pt.slots] at X' e1 e2 h1 h2 h3 st
  subst h1; subst h2; subst h3
  exact ⟨v, (T.setVm vm₁).calling g' mk As.toArray, t, U', L, hT, X', hL, e1, e2, hq, st⟩
/-- not caught here, past rows that name other classes: it goes on to the caller -/
theorem vx_outP {p : Program} {l : Launch} {e : Env} {R : Room} {s : State} {m : MethodId} {args : Array Value} {below : List Frame} {meth : Method} {c : Code} {H : Heap} {locs : List Loc} {cells slots : Nat} {free : Addr → Prop} {ls : Array Slot} {rest : List Value} {Qc : Array Value → State → Outcome → State → Prop} {XC : String → State → State → Prop}
    {pc : Nat} {own E : String} {ce : Cell} {q : Addr} {mc ms : Nat} (hown : s.vm.findClass own = some m.cls) (hlocks : meth.locks = false)
    (hpass : ∀ z ∈ c.exceptionTable.toList, covers z pc = false ∨ (z.catchType ≠ 0 ∧ ∃ nm : String, (Cond.classLink own z.catchType nm).before args s = true ∧ va_Nc E nm s)) (hcell : H[q]? = some ce) (hv : ce.vm = .none) (hcl : s.vm.findClass E = some ce.cls)
    (hx : ∀ t : State, t.heap = H → s.vm.Alike t.vm → XC E s t) (hf : ∀ z ∈ locs, free z.base) (hc : cells ≤ mc) (hs : slots ≤ ms) :
    vx_W p l e R s m args below meth c H locs cells slots (vx_MQ below Qc XC args s mc ms free) (F0 m pc ls rest) q := by
  intro T hT X
  have hpl : e.platform.magicAccessors = ({} : Platform).magicAccessors := by rw [X.admits.platform]
  obtain ⟨vm', hW', X', st⟩ := X.outThrough hlocks q (g := F0 m pc ls rest) rfl rfl rfl (cell := ce) (by rw [hT]; exact hcell) (by rw [hv]; rfl)
    (by obtain ⟨k9, h9, -⟩ := Vm.findClass_spec hcl; exact ⟨k9, h9⟩) (fun z hz => by
      rcases hpass z hz with h | ⟨hz0, nm, hl1, hn1⟩
      · exact Or.inl h
      · obtain ⟨c6, hc6, hcl6⟩ := Cond.classLink_spec hown hl1 e.platform hpl
        obtain ⟨a8, b8, h1, h2, h3⟩ := hn1
        cases Option.some.inj (h1.symm.trans hcl)
        cases Option.some.inj (h2.symm.trans hc6)
        exact Or.inr ⟨hz0, _, hcl6, h3⟩)
  obtain ⟨g₀, hfr⟩ := X'.frames_eq
  have hcell9 : ((T.setVm vm').setFrames (.throwing q :: below)).heap[q]? = some ce := by
    show T.heap[q]? = some ce
    rw [hT]; exact hcell
  have hend : Ended ((T.setVm vm').setFrames (.throwing q :: below)) below (.threw q) := State.frames_setFrames _ (State.cur_lt_of_frames hfr)
  refine ⟨(T.setVm vm').setFrames (.throwing q :: below), ?_, .threw q, X'.here.running, hend, Or.inr ⟨q, rfl, E, ce, locs, hx _ hT (X'.ends _).1.alike, hcell9, hv, hcl, (X'.ends _).1, (X'.ends _).2.mono hc hs, hf⟩⟩
  rw [X.pushThrowing_eq]
  exact st
/-- a thing of a world lies in the heap -/
theorem vx_lt {D : va_G} {cl : List vw_C} {ws : va_W} {H1 : Heap} (h : va_P D cl ws H1) {k : Nat} {q : Nat × va_E} (hk : ws[k]? = some q) : q.1 < H1.size := (h k q hk).lt
end VXS
/-! ===== END ===== -/
/-! ===== BEGIN methods with a table of their own: called by a name, returning or throwing ===== -/
section VXH
/-! vx_backW, vx_callVX, vx_callSX, vx_callVW, vx_runVW, vx_runVX, vx_runSX, vx_ofWH follow the same proofs as their sisters above (Free/Laws.lean, Shelf42/LK1.lean); vx_outP calls Shelf42/NT130.lean (outThrough). -/
section
variable {l : Launch} {R : Room} {p : Program} {e : Env} {below : List Frame} {s : State} {sargs : Array Value} {y : MethodName} {len W9 : Nat}
theorem vx_backW {ws : List Cond} {rm : Room} {Pc : Array Value → State → Prop} {Qc : Array Value → State → Outcome → State → Prop} {XC : String → State → State → Prop} {mc ms : Nat} {free : Addr → Prop} {bytes : ByteArray} {maxL : Nat} {ret : Option FieldType} {hh : List (Nat × Nat × Nat × Nat)}
    (hM : vx_Met l y ws rm Pc Qc XC mc ms free) (hblind : FrameBlind Pc) (hrc : rm.cells = mc) (hrs : rm.slots = ms)
    (hframes : rm.frames + 1 ≤ R.frames) (hlocals : W9 + (maxL + 11) + rm.locals ≤ R.locals)
    (hws : ∀ w ∈ ws, ∀ a' U, s.WarmedH U.vm → w.before a' U = true) (hcode : Cond.codeWith y bytes maxL ret hh ∈ ws) (hinit : ∀ a' U, s.WarmedH U.vm → (Cond.initialized y.cls).before a' U = true) :
    vx_Back l R p e below s sargs y len W9 (PreOf R mc ms Pc) (PostOf Qc mc ms free) (vx_Post XC mc ms free) := by
  intro m meth c A g ig mk a X hg hsize hdg hW hn hp
  have h1 : (headSpec ws rm).pre.before a A.U = true := atoms_intro fun w hw => hws w hw _ _ X.warmed
  have h2 : (Cond.codeWith y bytes maxL ret hh).before a A.U = true := hws _ hcode _ _ X.warmed
  have h3 : (Cond.initialized y.cls).before a A.U = true := hinit _ _ X.warmed
  have h4 : A.cells + (headSpec ws rm).room.cells ≤ R.cells := by rw [show (headSpec ws rm).room.cells = mc from hrc]; exact hp.1
  have h5 : A.slots + (headSpec ws rm).room.slots ≤ R.slots := by rw [show (headSpec ws rm).room.slots = ms from hrs]; exact hp.2.1
  have hPc : Pc a (A.U.calling g mk a) := hblind _ _ _ _ hp.2.2
  obtain ⟨U, Ls, c0, s0⟩ := A
  dsimp only [Pt.U, Pt.locs, Pt.cells, Pt.slots] at h1 h2 h3 h4 h5 X hn hPc ⊢
  obtain ⟨m9, methY, cY, hn9, hmY, hcY, -, hlY, -⟩ := Cond.codeWith_spec h2
  cases Option.some.inj (hn9.symm.trans hn)
  obtain ⟨kY, hkY, -⟩ := className_of_methodNamed hn
  have hinitY : kY.init = .initialized := Cond.initialized_spec (findClass_of_methodNamed hn) hkY h3
  have h : At U g.method c below := by rw [hg]; exact X.here
  have hlocals9 : W9 + (maxL + 11) + (headSpec ws rm).room.locals ≤ R.locals := hlocals
  have happ : (headSpec ws rm).appliesLoose y e.platform (U.calling g mk a) = true :=
    Spec.appliesLoose_calling (g := g) h hdg hn hkY hinitY
      (X.room_calling (g := g) (R' := (headSpec ws rm).room) hsize hmY hcY hframes (by rw [hlY]; omega) h4 h5) h1
  obtain ⟨mid, hmid⟩ := h.above
  have hfr : (U.setTop g).frames = (.java g :: mid) ++ below := by rw [State.frames_setTop' g h.top, hmid]; rfl
  obtain ⟨o, s₂, hsteps, -, hend, hq⟩ := Steps.callFree hM p X.admits X.cas X.clock (acts := []) hfr happ hPc trivial
  have hq' : vx_Q Qc XC mc ms free a (U.calling g mk a) o s₂ := hq
  rw [State.frames_setTop' g h.top] at hend
  obtain ⟨g₀, hg0⟩ := Option.isSome_iff_exists.mp h.top
  obtain ⟨r, hr⟩ := State.topJava?_eq_some.mp hg0
  have hr' : (({ U with heap := s₂.heap, slotsUsed := s₂.slotsUsed } : State).setVm s₂.vm).frames = .java g₀ :: r := hr
  rcases hq' with ⟨hqc, L, hfe, hL⟩ | ⟨q, rfl, E, ce, L, hx, hce, hcv, hcl, hW₂, hsm, hL⟩
  · obtain ⟨⟨v, rfl⟩, hW₂, e2, q2, q3, q4, q5, q6⟩ := id hfe
    have e3 : s₂ = ({ (U.calling g mk a).setFrames s₂.frames with heap := s₂.heap, slotsUsed := s₂.slotsUsed } : State).setVm s₂.vm := by
      have : s₂ = ({ s₂ with vm := (U.calling g mk a).vm } : State).setVm s₂.vm := rfl
      rw [e2] at this
      exact this
    obtain ⟨c₂, i₂, len₂, hc₂, hd₂, hf₂⟩ := hend
    have hW' : U.WarmedH s₂.vm := hW₂
    have hcc : c₂ = c := by
      have h1 : s₂.code? g.method = U.code? g.method := by
        rw [State.code?_eq, State.code?_eq, hW'.alike.method?]
      exact Option.some.inj (hc₂.symm.trans (h1.trans h.code))
    subst hcc
    have hlen : len₂ = len := by rw [hdg] at hd₂; cases hd₂; rfl
    subst hlen
    have hs₂ : s₂ = (({ U with heap := s₂.heap, slotsUsed := s₂.slotsUsed } : State).setVm s₂.vm).setTop { g with pc := g.pc + len₂, stack := v.toList ++ g.stack } := by
      refine e3.trans ?_
      rw [hf₂, State.calling_eq h.top, State.setFrames_setFrames, State.setTop_of_frames _ hr', hr]
      rfl
    have hsame : U.sameButNew ({ U with heap := s₂.heap, slotsUsed := s₂.slotsUsed } : State) L mc ms := by
      refine ⟨?_, q2, q3, q4, q5, q6⟩
      obtain ⟨t, ht, -⟩ := State.frames_cons hr
      show ({ U with heap := s₂.heap, slotsUsed := s₂.slotsUsed } : State) = { U.setFrames U.frames with heap := s₂.heap, slotsUsed := s₂.slotsUsed }
      rw [State.setFrames_self ht]
    subst hg
    refine Or.inl ⟨v, ⟨(({ U with heap := s₂.heap, slotsUsed := s₂.slotsUsed } : State).setVm s₂.vm), Ls ++ L, c0 + mc, s0 + ms⟩,
      ⟨X.admits, X.cas, X.clock, X.frames, X.room, X.hears, X.method, X.code, (X.here.setHeapUsed s₂.heap s₂.slotsUsed).setVm hW'.alike, X.tail, State.WarmedH.trans X.warmed hW', X.limits, X.bytes, X.same.trans (hsame.setVm s.vm)⟩,
      ⟨g, mk, s₂, L, rfl, rfl, hqc, rfl, hL, rfl, rfl⟩, ?_⟩
    show Steps p.tables e below _ ((({ U with heap := s₂.heap, slotsUsed := s₂.slotsUsed } : State).setVm s₂.vm).setTop { g with pc := g.pc + len₂, stack := v.toList ++ g.stack })
    rw [← hs₂]
    exact hsteps
  · obtain ⟨e2, q2, q3, q4, q5, q6⟩ := id hsm
    have e3 : s₂ = ({ (U.calling g mk a).setFrames s₂.frames with heap := s₂.heap, slotsUsed := s₂.slotsUsed } : State).setVm s₂.vm := by
      have : s₂ = ({ s₂ with vm := (U.calling g mk a).vm } : State).setVm s₂.vm := rfl
      rw [e2] at this
      exact this
    have hf₂ : s₂.frames = .throwing q :: .java g :: U.frames.tail := hend
    have hW' : U.WarmedH s₂.vm := hW₂
    have hs₂ : s₂ = ((({ U with heap := s₂.heap, slotsUsed := s₂.slotsUsed } : State).setVm s₂.vm).setTop g).pushFrame (.throwing q) := by
      refine e3.trans ?_
      rw [hf₂, State.calling_eq h.top, State.setFrames_setFrames, State.pushFrame, State.frames_setTop _ hr', State.setTop_of_frames _ hr', State.setFrames_setFrames, hr]
      rfl
    have hsame : U.sameButNew ({ U with heap := s₂.heap, slotsUsed := s₂.slotsUsed } : State) L mc ms := by
      refine ⟨?_, q2, q3, q4, q5, q6⟩
      obtain ⟨t, ht, -⟩ := State.frames_cons hr
      show ({ U with heap := s₂.heap, slotsUsed := s₂.slotsUsed } : State) = { U.setFrames U.frames with heap := s₂.heap, slotsUsed := s₂.slotsUsed }
      rw [State.setFrames_self ht]
    subst hg
    refine Or.inr ⟨q, ⟨(({ U with heap := s₂.heap, slotsUsed := s₂.slotsUsed } : State).setVm s₂.vm), Ls ++ L, c0 + mc, s0 + ms⟩,
      ⟨X.admits, X.cas, X.clock, X.frames, X.room, X.hears, X.method, X.code, (X.here.setHeapUsed s₂.heap s₂.slotsUsed).setVm hW'.alike, X.tail, State.WarmedH.trans X.warmed hW', X.limits, X.bytes, X.same.trans (hsame.setVm s.vm)⟩,
      ⟨g, mk, s₂, L, E, ce, rfl, rfl, hx, hce, hcv, hcl, rfl, hL, rfl, rfl⟩, ?_⟩
    show Steps p.tables e below _ (((({ U with heap := s₂.heap, slotsUsed := s₂.slotsUsed } : State).setVm s₂.vm).setTop g).pushFrame (.throwing q))
    rw [← hs₂]
    exact hsteps
end
variable {p : Program} {l : Launch} {e : Env} {R : Room} {s : State} {m : MethodId} {args : Array Value} {below : List Frame} {meth : Method} {c : Code} {T : State} {H : Heap} {locs : List Loc} {cells slots : Nat}
theorem vx_callVX (X : Stand p l e R s m args below meth c T locs cells slots) (hexec : p.tables.exec = Jvm.exec) {own C : String} {index : Nat} {y : MethodName} {bytes : ByteArray} {maxL : Nat} {ret : Option FieldType} {hh : List (Nat × Nat × Nat × Nat)}
    (hown : s.vm.findClass own = some m.cls) (hlink : (Cond.methodLink own index y).before args s = true) (hinst : (Cond.instanceMethod y).before args s = true) (hsel : (Cond.selects C y y).before args s = true)
    (hcode : (Cond.codeWith y bytes maxL ret hh).before args s = true) (hy : y.cls ≠ "java/lang/invoke/MethodHandle" ∧ y.cls ≠ "java/lang/invoke/VarHandle")
    {W9 : Nat} {Pre : Pt → Array Value → Prop} {Post : Pt → Array Value → Option Value → Pt → Prop} {PostX : Pt → Array Value → Addr → Pt → Prop} (hK : vx_Back l R p e below s args y 3 W9 Pre Post PostX)
    {b : Addr} {cellB : Cell} (hcell : T.heap[b]? = some cellB) (hobj : cellB.vm.isStatics = false) (hcls : s.vm.findClass C = some cellB.cls)
    {g : JFrame} (hg : g.method = m) (hsize : g.locals.size = c.maxLocals) {argsL rest : List Value} (hlen : ∀ sig, parseMethodDescriptor y.desc = some sig → argsL.length = sig.parameters.length)
    (hstack : g.stack = argsL.reverse ++ .ref b :: rest) (hW : 2 * g.monitorRoom + (rest.map fun v => v.category).sum ≤ W9) (hdg : decode c.code g.pc = .ok (.invokevirtual index, 3))
    (hpre : ∀ vm₁, s.WarmedH vm₁ → Pre ⟨T.setVm vm₁, locs, cells, slots⟩ (Value.ref b :: argsL).toArray) :
    (∃ (v : Option Value) (vm₁ : Vm) (B : Pt), s.WarmedH vm₁ ∧ Stand p l e R s m args below meth c B.U B.locs B.cells B.slots ∧ Post ⟨T.setVm vm₁, locs, cells, slots⟩ (Value.ref b :: argsL).toArray v B ∧
      ∀ target, Steps p.tables e below (B.U.setTop { g with pc := g.pc + 3, stack := v.toList ++ rest }) target → Steps p.tables e below (T.setTop g) target) ∨
    (∃ (q : Addr) (vm₁ : Vm) (B : Pt), s.WarmedH vm₁ ∧ Stand p l e R s m args below meth c B.U B.locs B.cells B.slots ∧ PostX ⟨T.setVm vm₁, locs, cells, slots⟩ (Value.ref b :: argsL).toArray q B ∧
      Steps p.tables e below (T.setTop g) ((B.U.setTop { g with stack := rest }).pushFrame (.throwing q))) := by
  obtain ⟨mk, methM, hnamed, hmethM, hstM, habM⟩ := Cond.instanceMethod_spec hinst
  obtain ⟨m8, methM', cM, hn8, hmethM', -, -, -, -, -, -, hsigM⟩ := Cond.codeWith_spec hcode
  cases Option.some.inj (hn8.symm.trans hnamed)
  cases hmethM.symm.trans hmethM'
  obtain ⟨c2, r2, m2, q1, q2, q3, q4, kP, hkP, hkPi⟩ := Cond.selects_spec hsel
  cases hcls.symm.trans q1
  cases (State.methodFound?_of_named hnamed hy).symm.trans q2
  cases hnamed.symm.trans q3
  have hselP : selectMethod e.platform s.vm cellB.cls mk = .method mk := by rw [Launch.admits_selectMethod X.admits]; exact q4
  obtain ⟨vm₁, X₁, hstep₁⟩ := X.invokevirtual hexec hown hlink hnamed hmethM hstM hkP hkPi hy (a := b) (cell := cellB) hcell
    (fun z h => by rw [h] at hobj; cases hobj) hselP hmethM habM hkP hkPi (g := g) hg (argsL := argsL) (rest := rest) (hlen _ hsigM) hstack hdg
  rcases hK m meth c ⟨T.setVm vm₁, locs, cells, slots⟩ { g with stack := rest } (.invokevirtual index) mk (Value.ref b :: argsL).toArray X₁ hg hsize hdg hW (X₁.named hnamed) (hpre vm₁ X₁.warmed) with ⟨v, B, X', hpost, hsteps⟩ | ⟨q, B, X', hpost, hsteps⟩
  · exact Or.inl ⟨v, vm₁, B, X₁.warmed, X', hpost, fun target h => hstep₁ _ fun acts => by rw [doInvoke_state]; exact hsteps.trans h⟩
  · exact Or.inr ⟨q, vm₁, B, X₁.warmed, X', hpost, hstep₁ _ fun acts => by rw [doInvoke_state]; exact hsteps⟩
theorem vx_callSX (X : Stand p l e R s m args below meth c T locs cells slots) (hexec : p.tables.exec = Jvm.exec) {own : String} {index : Nat} {y : MethodName} {bytes : ByteArray} {maxL : Nat} {ret : Option FieldType} {hh : List (Nat × Nat × Nat × Nat)}
    (hown : s.vm.findClass own = some m.cls) (hlink : (Cond.methodLink own index y).before args s = true) (hstat : (Cond.static y).before args s = true) (hinit : (Cond.initialized y.cls).before args s = true)
    (hcode : (Cond.codeWith y bytes maxL ret hh).before args s = true) (hy : y.cls ≠ "java/lang/invoke/MethodHandle" ∧ y.cls ≠ "java/lang/invoke/VarHandle")
    {W9 : Nat} {Pre : Pt → Array Value → Prop} {Post : Pt → Array Value → Option Value → Pt → Prop} {PostX : Pt → Array Value → Addr → Pt → Prop} (hK : vx_Back l R p e below s args y 3 W9 Pre Post PostX)
    {g : JFrame} (hg : g.method = m) (hsize : g.locals.size = c.maxLocals) {argsL rest : List Value} (hlen : ∀ sig, parseMethodDescriptor y.desc = some sig → argsL.length = sig.parameters.length)
    (hstack : g.stack = argsL.reverse ++ rest) (hW : 2 * g.monitorRoom + (rest.map fun v => v.category).sum ≤ W9) (hdg : decode c.code g.pc = .ok (.invokestatic index, 3))
    (hpre : ∀ vm₁, s.WarmedH vm₁ → Pre ⟨T.setVm vm₁, locs, cells, slots⟩ argsL.toArray) :
    (∃ (v : Option Value) (vm₁ : Vm) (B : Pt), s.WarmedH vm₁ ∧ Stand p l e R s m args below meth c B.U B.locs B.cells B.slots ∧ Post ⟨T.setVm vm₁, locs, cells, slots⟩ argsL.toArray v B ∧
      ∀ target, Steps p.tables e below (B.U.setTop { g with pc := g.pc + 3, stack := v.toList ++ rest }) target → Steps p.tables e below (T.setTop g) target) ∨
    (∃ (q : Addr) (vm₁ : Vm) (B : Pt), s.WarmedH vm₁ ∧ Stand p l e R s m args below meth c B.U B.locs B.cells B.slots ∧ PostX ⟨T.setVm vm₁, locs, cells, slots⟩ argsL.toArray q B ∧
      Steps p.tables e below (T.setTop g) ((B.U.setTop { g with stack := rest }).pushFrame (.throwing q))) := by
  obtain ⟨mk, methM, cM, hnamed, hmethM, -, -, -, -, -, -, hsigM⟩ := Cond.codeWith_spec hcode
  have hstatic : methM.isStatic = true := Cond.static_spec hnamed hmethM hstat
  obtain ⟨kP, hkP, -⟩ := className_of_methodNamed hnamed
  have hinitP : kP.init = .initialized := Cond.initialized_spec (findClass_of_methodNamed hnamed) hkP hinit
  obtain ⟨vm₁, X₁, hstep₁⟩ := X.invokestatic hexec hown hlink hnamed hmethM hstatic hkP hinitP hy (g := g) hg (argsL := argsL) (rest := rest) (hlen _ hsigM) hstack hdg
  rcases hK m meth c ⟨T.setVm vm₁, locs, cells, slots⟩ { g with stack := rest } (.invokestatic index) mk argsL.toArray X₁ hg hsize hdg hW (X₁.named hnamed) (hpre vm₁ X₁.warmed) with ⟨v, B, X', hpost, hsteps⟩ | ⟨q, B, X', hpost, hsteps⟩
  · exact Or.inl ⟨v, vm₁, B, X₁.warmed, X', hpost, fun target h => hstep₁ _ fun acts => by rw [doInvoke_state]; exact hsteps.trans h⟩
  · exact Or.inr ⟨q, vm₁, B, X₁.warmed, X', hpost, hstep₁ _ fun acts => by rw [doInvoke_state]; exact hsteps⟩
theorem vx_callVW (X : Stand p l e R s m args below meth c T locs cells slots) (hexec : p.tables.exec = Jvm.exec) {own C : String} {index : Nat} {y : MethodName} {bytes : ByteArray} {maxL : Nat} {ret : Option FieldType} {hh : List (Nat × Nat × Nat × Nat)}
    (hown : s.vm.findClass own = some m.cls) (hlink : (Cond.methodLink own index y).before args s = true) (hinst : (Cond.instanceMethod y).before args s = true) (hsel : (Cond.selects C y y).before args s = true)
    (hcode : (Cond.codeWith y bytes maxL ret hh).before args s = true) (hy : y.cls ≠ "java/lang/invoke/MethodHandle" ∧ y.cls ≠ "java/lang/invoke/VarHandle")
    {W9 : Nat} {Pre : Pt → Array Value → Prop} {Post : Pt → Array Value → Option Value → Pt → Prop} (hK : Back l R p e below s args y 3 W9 Pre Post)
    {b : Addr} {cellB : Cell} (hcell : T.heap[b]? = some cellB) (hobj : cellB.vm.isStatics = false) (hcls : s.vm.findClass C = some cellB.cls)
    {g : JFrame} (hg : g.method = m) (hsize : g.locals.size = c.maxLocals) {argsL rest : List Value} (hlen : ∀ sig, parseMethodDescriptor y.desc = some sig → argsL.length = sig.parameters.length)
    (hstack : g.stack = argsL.reverse ++ .ref b :: rest) (hW : 2 * g.monitorRoom + (rest.map fun v => v.category).sum ≤ W9) (hdg : decode c.code g.pc = .ok (.invokevirtual index, 3))
    (hpre : ∀ vm₁, s.WarmedH vm₁ → Pre ⟨T.setVm vm₁, locs, cells, slots⟩ (Value.ref b :: argsL).toArray) :
    ∃ (v : Option Value) (vm₁ : Vm) (B : Pt), s.WarmedH vm₁ ∧ Stand p l e R s m args below meth c B.U B.locs B.cells B.slots ∧ Post ⟨T.setVm vm₁, locs, cells, slots⟩ (Value.ref b :: argsL).toArray v B ∧
      ∀ target, Steps p.tables e below (B.U.setTop { g with pc := g.pc + 3, stack := v.toList ++ rest }) target → Steps p.tables e below (T.setTop g) target := by
  obtain ⟨mk, methM, hnamed, hmethM, hstM, habM⟩ := Cond.instanceMethod_spec hinst
  obtain ⟨m8, methM', cM, hn8, hmethM', -, -, -, -, -, -, hsigM⟩ := Cond.codeWith_spec hcode
  cases Option.some.inj (hn8.symm.trans hnamed)
  cases hmethM.symm.trans hmethM'
  obtain ⟨c2, r2, m2, q1, q2, q3, q4, kP, hkP, hkPi⟩ := Cond.selects_spec hsel
  cases hcls.symm.trans q1
  cases (State.methodFound?_of_named hnamed hy).symm.trans q2
  cases hnamed.symm.trans q3
  have hselP : selectMethod e.platform s.vm cellB.cls mk = .method mk := by rw [Launch.admits_selectMethod X.admits]; exact q4
  obtain ⟨vm₁, X₁, hstep₁⟩ := X.invokevirtual hexec hown hlink hnamed hmethM hstM hkP hkPi hy (a := b) (cell := cellB) hcell
    (fun z h => by rw [h] at hobj; cases hobj) hselP hmethM habM hkP hkPi (g := g) hg (argsL := argsL) (rest := rest) (hlen _ hsigM) hstack hdg
  obtain ⟨v, B, X', hpost, hsteps⟩ := hK m meth c ⟨T.setVm vm₁, locs, cells, slots⟩ { g with stack := rest } (.invokevirtual index) mk (Value.ref b :: argsL).toArray X₁ hg hsize hdg hW (X₁.named hnamed) (hpre vm₁ X₁.warmed)
  exact ⟨v, vm₁, B, X₁.warmed, X', hpost, fun target h => hstep₁ _ fun acts => by rw [doInvoke_state]; exact hsteps.trans h⟩
abbrev vx_CVW (R : Room) (s : State) (args : Array Value) (own C : String) (index : Nat) (y : MethodName) (bytes : ByteArray) (maxL : Nat) (ret : Option FieldType) (hh : List (Nat × Nat × Nat × Nat)) (ws : List Cond) (rm : Room) (mc ms n : Nat) : Prop :=
  (rm.cells = mc ∧ rm.slots = ms ∧ rm.frames + 1 ≤ R.frames ∧ 8 + (maxL + 11) + rm.locals ≤ R.locals ∧ (∀ w ∈ ws, ∀ (a' : Array Value) (U : State), s.WarmedH U.vm → w.before a' U = true) ∧ Cond.codeWith y bytes maxL ret hh ∈ ws) ∧
  (Cond.codeWith y bytes maxL ret hh).before args s = true ∧ (Cond.initialized y.cls).before args s = true ∧ (y.cls ≠ "java/lang/invoke/MethodHandle" ∧ y.cls ≠ "java/lang/invoke/VarHandle") ∧
  (∀ sig, parseMethodDescriptor y.desc = some sig → n = sig.parameters.length) ∧ (Cond.methodLink own index y).before args s = true ∧ (Cond.instanceMethod y).before args s = true ∧ (Cond.selects C y y).before args s = true
theorem vx_cwVW {own C : String} {index maxL mc ms : Nat} {y : MethodName} {bytes : ByteArray} {ret : Option FieldType} {hh : List (Nat × Nat × Nat × Nat)} {Ts ws ws' : List Cond} {rm : Room} (n : Nat) (ht : ∀ w ∈ Ts, w.before args s = true) (hT : GoodIn Ts (wsV own index C y ws)) (hw : ws = Cond.codeWith y bytes maxL ret hh :: ws') (hrc : rm.cells = mc) (hrs : rm.slots = ms)
    (hd : y.cls = C ∧ y.cls ≠ "java/lang/invoke/MethodHandle" ∧ y.cls ≠ "java/lang/invoke/VarHandle" ∧ (parseMethodDescriptor y.desc).map (fun d => d.parameters.length) = some n) (hR : rm.frames + 1 ≤ R.frames ∧ 8 + (maxL + 11) + rm.locals ≤ R.locals) :
    vx_CVW R s args own C index y bytes maxL ret hh ws rm mc ms n := by
  obtain ⟨hC, hd⟩ := hd
  subst hC
  have ok : ∀ w ∈ wsV own index y.cls y ws, w.before args s = true := fun w h => ht w (hT w h).1
  have hG : GoodIn Ts ws := fun w h => hT w (by unfold wsV; exact List.mem_append_right _ h)
  have hc : Cond.codeWith y bytes maxL ret hh ∈ ws := by rw [hw]; exact List.mem_cons_self
  refine ⟨⟨hrc, hrs, hR.1, hR.2, pay_in ht hG, hc⟩, ht _ (hG _ hc).1, ok _ (by simp [wsV]), ⟨hd.1, hd.2.1⟩, fun sig h => ?_, ok _ (by simp [wsV]), ok _ (by simp [wsV]), ok _ (by simp [wsV])⟩
  have h2 := hd.2.2
  rw [h] at h2
  exact (Option.some.inj h2).symm
theorem vx_runVW {y : MethodName} {bytes cc : ByteArray} {maxL nL mc ms n index : Nat} {ret : Option FieldType} {hh : List (Nat × Nat × Nat × Nat)} {ws : List Cond} {rm : Room} {Pc : Array Value → State → Prop} {Qc : Array Value → State → Outcome → State → Prop} {free : Addr → Prop} {Ts : List Cond} {own C : String} {b : Addr} {As rest : List Value} {g : JFrame}
    (S : CallFix p m c cc nL s args Ts own) (hM : Met l y ws rm Pc Qc mc ms free) (cw : vx_CVW R s args own C index y bytes maxL ret hh ws rm mc ms n) (hp : PreV s H C b Pc As)
    (hg : g.method = m) (hn : As.length = n) (hsize : g.locals.size = nL) (hstack : g.stack = As.reverse ++ .ref b :: rest) (hW : 2 * g.monitorRoom + (rest.map fun v => v.category).sum ≤ 8) (hdg : decode cc g.pc = .ok (.invokevirtual index, 3)) (hf : cells + mc ≤ R.cells ∧ slots + ms ≤ R.slots) :
    va_Run p l e R s m args below meth c H locs cells slots mc ms g rest (Qc (Value.ref b :: As).toArray) free := by
  obtain ⟨⟨hrc, hrs, hfr, hlo, hws, hcw⟩, hcode, hini, hy, hlen, hl, hin, hse⟩ := cw
  have hK : Back l R p e below s args y 3 8 (PreOf R mc ms Pc) (PostOf Qc mc ms free) := va_backW (hh := hh) (bytes := bytes) (maxL := maxL) (ret := ret) hM hp.1 hrc hrs hfr hlo hws hcw (fun a' U hW => word_at hW (Or.inl (by first | rfl | simp [Cond.onTables, Cond.keeps, Cond.steady])) hini)
  obtain ⟨hx, hb, hml, ho, -⟩ := S
  obtain ⟨-, ⟨cellB, hcB, hoB, hclB⟩, hPc⟩ := hp
  intro T hT X
  obtain ⟨v, vm₁, ⟨U', l2, c2, s2⟩, hW₁, X', ⟨g', mk, t, L, e1, e2, hq, h1, hL, h2, h3⟩, st⟩ := vx_callVW X hx (C := C) (hh := hh) (bytes := bytes) (maxL := maxL) (ret := ret) ho hl hin hse hcode hy hK (by rw [hT]; exact hcB) hoB hclB hg (hsize.trans hml.symm) (argsL := As) (rest := rest) (fun sig h => hn.trans (hlen sig h)) hstack hW (by rw [hb]; exact hdg)
    (fun vm₁ hW₁ => ⟨hf.1, hf.2, hPc (T.setVm vm₁) hT hW₁⟩)
  dsimp only [Pt.U, Pt.locs, Pt.cells, Pt.slots] at X' e1 e2 h1 h2 h3 st
  subst h1; subst h2; subst h3
  exact ⟨v, (T.setVm vm₁).calling g' mk (Value.ref b :: As).toArray, t, U', L, hT, X', hL, e1, e2, hq, st⟩
section
variable {y : MethodName} {bytes cc : ByteArray} {maxL nL mc ms n index : Nat} {ret : Option FieldType} {ws : List Cond} {rm : Room} {Pc : Array Value → State → Prop} {Qc : Array Value → State → Outcome → State → Prop} {XC : String → State → State → Prop} {free : Addr → Prop} {Ts : List Cond} {own C : String} {b : Addr} {As rest : List Value} {g : JFrame}
theorem vx_runVX {hh : List (Nat × Nat × Nat × Nat)} (S : CallFix p m c cc nL s args Ts own) (hM : vx_Met l y ws rm Pc Qc XC mc ms free) (cw : vx_CVW R s args own C index y bytes maxL ret hh ws rm mc ms n) (hp : PreV s H C b Pc As)
    (hg : g.method = m) (hn : As.length = n) (hsize : g.locals.size = nL) (hstack : g.stack = As.reverse ++ .ref b :: rest) (hW : 2 * g.monitorRoom + (rest.map fun v => v.category).sum ≤ 8) (hdg : decode cc g.pc = .ok (.invokevirtual index, 3)) (hf : cells + mc ≤ R.cells ∧ slots + ms ≤ R.slots) :
    vx_Run p l e R s m args below meth c H locs cells slots mc ms g rest (Qc (Value.ref b :: As).toArray) XC free := by
  obtain ⟨⟨hrc, hrs, hfr, hlo, hws, hcw⟩, hcode, hini, hy, hlen, hl, hin, hse⟩ := cw
  have hK : vx_Back l R p e below s args y 3 8 (PreOf R mc ms Pc) (PostOf Qc mc ms free) (vx_Post XC mc ms free) := vx_backW (hh := hh) (bytes := bytes) (maxL := maxL) (ret := ret) hM hp.1 hrc hrs hfr hlo hws hcw (fun a' U hW => word_at hW (Or.inl (by first | rfl | simp [Cond.onTables, Cond.keeps, Cond.steady])) hini)
  obtain ⟨hx, hb, hml, ho, -⟩ := S
  obtain ⟨-, ⟨cellB, hcB, hoB, hclB⟩, hPc⟩ := hp
  intro T hT X
  rcases vx_callVX X hx (C := C) (hh := hh) (bytes := bytes) (maxL := maxL) (ret := ret) ho hl hin hse hcode hy hK (by rw [hT]; exact hcB) hoB hclB hg (hsize.trans hml.symm) (argsL := As) (rest := rest) (fun sig h => hn.trans (hlen sig h)) hstack hW (by rw [hb]; exact hdg)
    (fun vm₁ hW₁ => ⟨hf.1, hf.2, hPc (T.setVm vm₁) hT hW₁⟩) with ⟨v, vm₁, ⟨U', l2, c2, s2⟩, hW₁, X', ⟨g', mk, t, L, e1, e2, hq, h1, hL, h2, h3⟩, st⟩ | ⟨q, vm₁, ⟨U', l2, c2, s2⟩, hW₁, X', ⟨g', mk, t, L, E, ce, e1, e2, hq, hce, hcv, hcl, h1, hL, h2, h3⟩, st⟩
  · dsimp only [Pt.U, Pt.locs, Pt.cells, Pt.slots] at X' e1 e2 h1 h2 h3 st
    subst h1; subst h2; subst h3
    exact Or.inl ⟨v, (T.setVm vm₁).calling g' mk (Value.ref b :: As).toArray, t, U', L, hT, X', hL, e1, e2, hq, st⟩
  · dsimp only [Pt.U, Pt.locs, Pt.cells, Pt.slots] at X' e1 e2 h1 h2 h3 st hcl
    subst h1; subst h2; subst h3
    exact Or.inr ⟨q, (T.setVm vm₁).calling g' mk (Value.ref b :: As).toArray, t, U', L, E, ce, hT, X', hL, e1, e2, hq, hce, hcv, vx_cls hW₁ hcl, st⟩
theorem vx_runSX {hh : List (Nat × Nat × Nat × Nat)} (S : CallFix p m c cc nL s args Ts own) (hM : vx_Met l y ws rm Pc Qc XC mc ms free) (cw : vx_CSW R s args own index y bytes maxL ret hh ws rm mc ms n) (hp : PreS s H Pc As)
    (hg : g.method = m) (hn : As.length = n) (hsize : g.locals.size = nL) (hstack : g.stack = As.reverse ++ rest) (hW : 2 * g.monitorRoom + (rest.map fun v => v.category).sum ≤ 8) (hdg : decode cc g.pc = .ok (.invokestatic index, 3)) (hf : cells + mc ≤ R.cells ∧ slots + ms ≤ R.slots) :
    vx_Run p l e R s m args below meth c H locs cells slots mc ms g rest (Qc As.toArray) XC free := by
  obtain ⟨⟨hrc, hrs, hfr, hlo, hws, hcw⟩, hcode, hini, hy, hlen, hl, hstt⟩ := cw
  have hK : vx_Back l R p e below s args y 3 8 (PreOf R mc ms Pc) (PostOf Qc mc ms free) (vx_Post XC mc ms free) := vx_backW (hh := hh) (bytes := bytes) (maxL := maxL) (ret := ret) hM hp.1 hrc hrs hfr hlo hws hcw (fun a' U hW => word_at hW (Or.inl (by first | rfl | simp [Cond.onTables, Cond.keeps, Cond.steady])) hini)
  obtain ⟨hx, hb, hml, ho, -⟩ := S
  intro T hT X
  rcases vx_callSX X hx (hh := hh) (bytes := bytes) (maxL := maxL) (ret := ret) ho hl hstt hini hcode hy hK hg (hsize.trans hml.symm) (argsL := As) (rest := rest) (fun sig h => hn.trans (hlen sig h)) hstack hW (by rw [hb]; exact hdg)
    (fun vm₁ hW₁ => ⟨hf.1, hf.2, hp.2 (T.setVm vm₁) hT hW₁⟩) with ⟨v, vm₁, ⟨U', l2, c2, s2⟩, hW₁, X', ⟨g', mk, t, L, e1, e2, hq, h1, hL, h2, h3⟩, st⟩ | ⟨q, vm₁, ⟨U', l2, c2, s2⟩, hW₁, X', ⟨g', mk, t, L, E, ce, e1, e2, hq, hce, hcv, hcl, h1, hL, h2, h3⟩, st⟩
  · dsimp only [Pt.U, Pt.locs, Pt.cells, Pt.slots] at X' e1 e2 h1 h2 h3 st
    subst h1; subst h2; subst h3
    exact Or.inl ⟨v, (T.setVm vm₁).calling g' mk As.toArray, t, U', L, hT, X', hL, e1, e2, hq, st⟩
  · dsimp only [Pt.U, Pt.locs, Pt.cells, Pt.slots] at X' e1 e2 h1 h2 h3 st hcl
    subst h1; subst h2; subst h3
    exact Or.inr ⟨q, (T.setVm vm₁).calling g' mk As.toArray, t, U', L, E, ce, hT, X', hL, e1, e2, hq, hce, hcv, vx_cls hW₁ hcl, st⟩
end
end VXH
theorem vx_ofWH {l : Launch} {y : MethodName} {ws ws' : List Cond} {rm : Room} {Pc : Array Value → State → Prop} {Qc : Array Value → State → Outcome → State → Prop} {XC : String → State → State → Prop} {mc ms : Nat} {free : Addr → Prop} {cc : ByteArray} {maxL : Nat} {ret : Option FieldType} {hh : List (Nat × Nat × Nat × Nat)}
    (hy : plainName y.cls = true) (hw : ws = Cond.codeWith y cc maxL ret hh :: ws')
    (body : ∀ p e s m args below meth c s₁, BodyLoose p l y (headSpec ws rm) cc maxL ret e s m args below meth c s₁ → c.maxLocals = maxL → Pc args s →
      W p l e (headSpec ws rm).room s m args below meth c s.heap [] 0 0 (vx_MQ below Qc XC args s mc ms free) (entryFrame m args maxL)) : vx_Met l y ws rm Pc Qc XC mc ms free := by
  refine MetFree.of_bodyS (code := cc) (maxLocals := maxL) (ret := ret) hy ?_ ?_
  · intro args s m h hn
    obtain ⟨m9, meth, c, hn9, h1, h2, h3, h4, -, h5, h6, -⟩ := Cond.codeWith_spec (atoms_spec (ws := ws) h _ (by rw [hw]; exact List.mem_cons_self))
    cases hn.symm.trans hn9
    exact ⟨meth, c, h1, h2, h3, h4, h5, h6⟩
  · intro p e s m args below meth c s₁ B hml hP _
    have hh0 : s₁.heap = s.heap := by rw [B.state]; rfl
    obtain ⟨t, a1, o, b1, b2, b3⟩ := body p e s m args below meth c s₁ B hml hP s₁ hh0 (Stand.of_body B)
    exact ⟨t, o, a1, b1, b2, b3⟩
/-! ===== END ===== -/
end
section
/-! ===== BEGIN printed: names, fields, word lists, decode rows ===== -/
def RX0 : String := "BondDesk$Bond"
def TX0 : u_T := fun k => match k with
  | 0 => ("BondDesk$Bond", "schedule", "LBondDesk$Schedule;", true)
  | 1 => ("BondDesk$Bond", "factor", "I", false)
  | 2 => ("BondDesk$Bond", "state", "I", false)
  | 3 => ("BondDesk$Bond", "next", "I", false)
  | 4 => ("BondDesk$Bond", "pieces", "I", false)
  | 5 => ("BondDesk$Bond", "sinkFrom", "I", false)
  | 6 => ("BondDesk$Bond", "sinkPart", "I", false)
  | 7 => ("BondDesk$Bond", "callFrom", "I", false)
  | _ => ("BondDesk$Bond", "callPrice", "I", false)
def tyX0 : Nat → FieldType := fun k => match k with
  | 0 => .object "BondDesk$Schedule"
  | 1 => .int
  | 2 => .int
  | 3 => .int
  | 4 => .int
  | 5 => .int
  | 6 => .int
  | 7 => .int
  | _ => .int
abbrev wsX00 : List Cond := u_ws RX0 TX0 9
theorem nmX0 : ∀ a, a < 9 → ∀ b, b < 9 → a ≠ b → (TX0 a).2.1 ≠ (TX0 b).2.1 := by decide +kernel
theorem tyX0_ok : ∀ k, k < 9 → parseFieldDescriptor (TX0 k).2.2.1 = some (tyX0 k) := by decide +kernel
abbrev cX0_init : ByteArray := prog_2_method_1_code
def yX0_init : MethodName := ⟨RX0, "<init>", "(LBondDesk$Schedule;I)V"⟩
abbrev cX0_isGone : ByteArray := prog_2_method_2_code
def yX0_isGone : MethodName := ⟨RX0, "isGone", "()Z"⟩
abbrev cX0_isIssued : ByteArray := prog_2_method_3_code
def yX0_isIssued : MethodName := ⟨RX0, "isIssued", "(I)Z"⟩
abbrev cX0_isRung : ByteArray := prog_2_method_4_code
def yX0_isRung : MethodName := ⟨RX0, "isRung", "(II)Z"⟩
abbrev cX0_faceOf : ByteArray := prog_2_method_5_code
def yX0_faceOf : MethodName := ⟨RX0, "faceOf", "(I)J"⟩
abbrev cX0_face : ByteArray := prog_2_method_6_code
def yX0_face : MethodName := ⟨RX0, "face", "()J"⟩
abbrev cX0_accruedOn : ByteArray := prog_2_method_7_code
def yX0_accruedOn : MethodName := ⟨RX0, "accruedOn", "(I)J"⟩
abbrev cX0_fullPrice : ByteArray := prog_2_method_8_code
def yX0_fullPrice : MethodName := ⟨RX0, "fullPrice", "(II)J"⟩
abbrev cX0_isEnd : ByteArray := prog_2_method_9_code
def yX0_isEnd : MethodName := ⟨RX0, "isEnd", "(I)Z"⟩
abbrev cX0_sunkOn : ByteArray := prog_2_method_10_code
def yX0_sunkOn : MethodName := ⟨RX0, "sunkOn", "(II)I"⟩
abbrev cX0_paymentOn : ByteArray := prog_2_method_11_code
def yX0_paymentOn : MethodName := ⟨RX0, "paymentOn", "(II)J"⟩
abbrev cX0_factorBehind : ByteArray := prog_2_method_12_code
def yX0_factorBehind : MethodName := ⟨RX0, "factorBehind", "(I)I"⟩
abbrev cX0_worthAt : ByteArray := prog_2_method_13_code
def yX0_worthAt : MethodName := ⟨RX0, "worthAt", "(III)J"⟩
abbrev cX0_greatestRate : ByteArray := prog_2_method_14_code
def yX0_greatestRate : MethodName := ⟨RX0, "greatestRate", "(IIJI)I"⟩
abbrev cX0_yieldAt : ByteArray := prog_2_method_15_code
def yX0_yieldAt : MethodName := ⟨RX0, "yieldAt", "(II)I"⟩
abbrev cX0_isCallDate : ByteArray := prog_2_method_16_code
def yX0_isCallDate : MethodName := ⟨RX0, "isCallDate", "(I)Z"⟩
abbrev cX0_callPayment : ByteArray := prog_2_method_17_code
def yX0_callPayment : MethodName := ⟨RX0, "callPayment", "(I)J"⟩
abbrev cX0_firstCall : ByteArray := prog_2_method_18_code
def yX0_firstCall : MethodName := ⟨RX0, "firstCall", "()I"⟩
abbrev cX0_rateOfCall : ByteArray := prog_2_method_19_code
def yX0_rateOfCall : MethodName := ⟨RX0, "rateOfCall", "()I"⟩
abbrev cX0_lookUpTo : ByteArray := prog_2_method_20_code
def yX0_lookUpTo : MethodName := ⟨RX0, "lookUpTo", "(IILBondDesk$Ledger;)V"⟩
abbrev cX0_lookAt : ByteArray := prog_2_method_21_code
def yX0_lookAt : MethodName := ⟨RX0, "lookAt", "(IILBondDesk$Ledger;)V"⟩
abbrev cX0_leave : ByteArray := prog_2_method_22_code
def yX0_leave : MethodName := ⟨RX0, "leave", "(I)V"⟩
abbrev cX0_paymentsIn : ByteArray := prog_2_method_23_code
def yX0_paymentsIn : MethodName := ⟨RX0, "paymentsIn", "(II)J"⟩
abbrev cX0_tell : ByteArray := prog_2_method_24_code
def yX0_tell : MethodName := ⟨RX0, "tell", "(I)I"⟩
abbrev cX0_addTo : ByteArray := prog_2_method_25_code
def yX0_addTo : MethodName := ⟨RX0, "addTo", "(JI)J"⟩
def RX1 : String := "BondDesk$Dates"
def TX1 : u_T := fun k => match k with
  | _ => ("", "", "", false)
def tyX1 : Nat → FieldType := fun k => match k with
  | _ => .int
abbrev wsX10 : List Cond := u_ws RX1 TX1 0
theorem nmX1 : ∀ a, a < 0 → ∀ b, b < 0 → a ≠ b → (TX1 a).2.1 ≠ (TX1 b).2.1 := by decide +kernel
theorem tyX1_ok : ∀ k, k < 0 → parseFieldDescriptor (TX1 k).2.2.1 = some (tyX1 k) := by decide +kernel
abbrev cX1_yearOf : ByteArray := prog_3_method_2_code
def yX1_yearOf : MethodName := ⟨RX1, "yearOf", "(I)I"⟩
abbrev cX1_monthOf : ByteArray := prog_3_method_3_code
def yX1_monthOf : MethodName := ⟨RX1, "monthOf", "(I)I"⟩
abbrev cX1_dayOf : ByteArray := prog_3_method_4_code
def yX1_dayOf : MethodName := ⟨RX1, "dayOf", "(I)I"⟩
abbrev cX1_isDate : ByteArray := prog_3_method_5_code
def yX1_isDate : MethodName := ⟨RX1, "isDate", "(I)Z"⟩
abbrev cX1_monthLength : ByteArray := prog_3_method_6_code
def yX1_monthLength : MethodName := ⟨RX1, "monthLength", "(II)I"⟩
abbrev cX1_dayNumber : ByteArray := prog_3_method_7_code
def yX1_dayNumber : MethodName := ⟨RX1, "dayNumber", "(I)I"⟩
abbrev cX1_dateOf : ByteArray := prog_3_method_8_code
def yX1_dateOf : MethodName := ⟨RX1, "dateOf", "(I)I"⟩
abbrev cX1_dayOfWeek : ByteArray := prog_3_method_9_code
def yX1_dayOfWeek : MethodName := ⟨RX1, "dayOfWeek", "(I)I"⟩
abbrev cX1_daysBetween : ByteArray := prog_3_method_10_code
def yX1_daysBetween : MethodName := ⟨RX1, "daysBetween", "(II)I"⟩
abbrev cX1_daysOf30 : ByteArray := prog_3_method_11_code
def yX1_daysOf30 : MethodName := ⟨RX1, "daysOf30", "(II)I"⟩
abbrev cX1_monthsBack : ByteArray := prog_3_method_12_code
def yX1_monthsBack : MethodName := ⟨RX1, "monthsBack", "(II)I"⟩
def RX2 : String := "BondDesk$Ledger"
def TX2 : u_T := fun k => match k with
  | 0 => ("BondDesk$Ledger", "coupons", "J", false)
  | 1 => ("BondDesk$Ledger", "sinking", "J", false)
  | 2 => ("BondDesk$Ledger", "calls", "J", false)
  | _ => ("BondDesk$Ledger", "ends", "J", false)
def tyX2 : Nat → FieldType := fun k => match k with
  | 0 => .long
  | 1 => .long
  | 2 => .long
  | _ => .long
abbrev wsX20 : List Cond := u_ws RX2 TX2 4
theorem nmX2 : ∀ a, a < 4 → ∀ b, b < 4 → a ≠ b → (TX2 a).2.1 ≠ (TX2 b).2.1 := by decide +kernel
theorem tyX2_ok : ∀ k, k < 4 → parseFieldDescriptor (TX2 k).2.2.1 = some (tyX2 k) := by decide +kernel
abbrev cX2_init : ByteArray := prog_4_method_1_code
def yX2_init : MethodName := ⟨RX2, "<init>", "()V"⟩
abbrev cX2_all : ByteArray := prog_4_method_2_code
def yX2_all : MethodName := ⟨RX2, "all", "()J"⟩
def RX3 : String := "BondDesk$Schedule"
def TX3 : u_T := fun k => match k with
  | 0 => ("BondDesk$Schedule", "issue", "I", true)
  | 1 => ("BondDesk$Schedule", "end", "I", true)
  | 2 => ("BondDesk$Schedule", "rate", "I", true)
  | 3 => ("BondDesk$Schedule", "perYear", "I", true)
  | 4 => ("BondDesk$Schedule", "way", "I", true)
  | 5 => ("BondDesk$Schedule", "regularBegin", "I", true)
  | 6 => ("BondDesk$Schedule", "dates", "[I", true)
  | 7 => ("BondDesk$Schedule", "firstDays", "J", true)
  | _ => ("BondDesk$Schedule", "firstYear", "J", true)
def tyX3 : Nat → FieldType := fun k => match k with
  | 0 => .int
  | 1 => .int
  | 2 => .int
  | 3 => .int
  | 4 => .int
  | 5 => .int
  | 6 => .array .int
  | 7 => .long
  | _ => .long
abbrev wsX30 : List Cond := u_ws RX3 TX3 9
theorem nmX3 : ∀ a, a < 9 → ∀ b, b < 9 → a ≠ b → (TX3 a).2.1 ≠ (TX3 b).2.1 := by decide +kernel
theorem tyX3_ok : ∀ k, k < 9 → parseFieldDescriptor (TX3 k).2.2.1 = some (tyX3 k) := by decide +kernel
abbrev cX3_init : ByteArray := prog_5_method_1_code
def yX3_init : MethodName := ⟨RX3, "<init>", "(IIIIII)V"⟩
abbrev cX3_dateBack : ByteArray := prog_5_method_2_code
def yX3_dateBack : MethodName := ⟨RX3, "dateBack", "(III)I"⟩
abbrev cX3_countCoupons : ByteArray := prog_5_method_3_code
def yX3_countCoupons : MethodName := ⟨RX3, "countCoupons", "(III)I"⟩
abbrev cX3_firstBehind : ByteArray := prog_5_method_4_code
def yX3_firstBehind : MethodName := ⟨RX3, "firstBehind", "(I)I"⟩
abbrev cX3_beginOf : ByteArray := prog_5_method_5_code
def yX3_beginOf : MethodName := ⟨RX3, "beginOf", "(I)I"⟩
abbrev cX3_couponFor : ByteArray := prog_5_method_6_code
def yX3_couponFor : MethodName := ⟨RX3, "couponFor", "(IJ)J"⟩
abbrev cX3_accruedFor : ByteArray := prog_5_method_7_code
def yX3_accruedFor : MethodName := ⟨RX3, "accruedFor", "(IJ)J"⟩
abbrev cX3_daysCounted : ByteArray := prog_5_method_8_code
def yX3_daysCounted : MethodName := ⟨RX3, "daysCounted", "(II)J"⟩
abbrev cX3_yearOfPeriod : ByteArray := prog_5_method_9_code
def yX3_yearOfPeriod : MethodName := ⟨RX3, "yearOfPeriod", "(I)J"⟩
def RX4 : String := "BondDesk"
def TX4 : u_T := fun k => match k with
  | 0 => ("BondDesk", "holidays", "[I", true)
  | 1 => ("BondDesk", "bonds", "[LBondDesk$Bond;", true)
  | 2 => ("BondDesk", "paid", "LBondDesk$Ledger;", true)
  | 3 => ("BondDesk", "holidayCount", "I", false)
  | 4 => ("BondDesk", "bondCount", "I", false)
  | 5 => ("BondDesk", "today", "I", false)
  | 6 => ("BondDesk", "cash", "J", false)
  | _ => ("BondDesk", "refinancing", "I", false)
def tyX4 : Nat → FieldType := fun k => match k with
  | 0 => .array .int
  | 1 => .array (.object "BondDesk$Bond")
  | 2 => .object "BondDesk$Ledger"
  | 3 => .int
  | 4 => .int
  | 5 => .int
  | 6 => .long
  | _ => .int
abbrev wsX40 : List Cond := u_ws RX4 TX4 8
theorem nmX4 : ∀ a, a < 8 → ∀ b, b < 8 → a ≠ b → (TX4 a).2.1 ≠ (TX4 b).2.1 := by decide +kernel
theorem tyX4_ok : ∀ k, k < 8 → parseFieldDescriptor (TX4 k).2.2.1 = some (tyX4 k) := by decide +kernel
abbrev cX4_init : ByteArray := prog_1_method_1_code
def yX4_init : MethodName := ⟨RX4, "<init>", "()V"⟩
abbrev cX4_later : ByteArray := prog_1_method_2_code
def yX4_later : MethodName := ⟨RX4, "later", "(II)I"⟩
abbrev cX4_weekday : ByteArray := prog_1_method_3_code
def yX4_weekday : MethodName := ⟨RX4, "weekday", "(I)I"⟩
abbrev cX4_addHoliday : ByteArray := prog_1_method_4_code
def yX4_addHoliday : MethodName := ⟨RX4, "addHoliday", "(I)I"⟩
abbrev cX4_working : ByteArray := prog_1_method_5_code
def yX4_working : MethodName := ⟨RX4, "working", "(I)I"⟩
abbrev cX4_requireDate : ByteArray := prog_1_method_6_code
def yX4_requireDate : MethodName := ⟨RX4, "requireDate", "(I)V"⟩
abbrev cX4_isHoliday : ByteArray := prog_1_method_7_code
def yX4_isHoliday : MethodName := ⟨RX4, "isHoliday", "(I)Z"⟩
abbrev cX4_isWorkingDay : ByteArray := prog_1_method_8_code
def yX4_isWorkingDay : MethodName := ⟨RX4, "isWorkingDay", "(I)Z"⟩
abbrev cX4_nextWorkingDate : ByteArray := prog_1_method_9_code
def yX4_nextWorkingDate : MethodName := ⟨RX4, "nextWorkingDate", "(I)I"⟩
abbrev cX4_addBond : ByteArray := prog_1_method_10_code
def yX4_addBond : MethodName := ⟨RX4, "addBond", "(IIIII)I"⟩
abbrev cX4_setSink : ByteArray := prog_1_method_11_code
def yX4_setSink : MethodName := ⟨RX4, "setSink", "(III)I"⟩
abbrev cX4_setCall : ByteArray := prog_1_method_12_code
def yX4_setCall : MethodName := ⟨RX4, "setCall", "(III)I"⟩
abbrev cX4_setRate : ByteArray := prog_1_method_13_code
def yX4_setRate : MethodName := ⟨RX4, "setRate", "(I)I"⟩
abbrev cX4_bond : ByteArray := prog_1_method_14_code
def yX4_bond : MethodName := ⟨RX4, "bond", "(II)I"⟩
abbrev cX4_coupon : ByteArray := prog_1_method_15_code
def yX4_coupon : MethodName := ⟨RX4, "coupon", "(III)I"⟩
abbrev cX4_accrued : ByteArray := prog_1_method_16_code
def yX4_accrued : MethodName := ⟨RX4, "accrued", "(II)I"⟩
abbrev cX4_requireLife : ByteArray := prog_1_method_17_code
def yX4_requireLife : MethodName := ⟨RX4, "requireLife", "(II)V"⟩
abbrev cX4_requireTerms : ByteArray := prog_1_method_18_code
def yX4_requireTerms : MethodName := ⟨RX4, "requireTerms", "(III)V"⟩
abbrev cX4_requireRate : ByteArray := prog_1_method_19_code
def yX4_requireRate : MethodName := ⟨RX4, "requireRate", "(I)V"⟩
abbrev cX4_requireThere : ByteArray := prog_1_method_20_code
def yX4_requireThere : MethodName := ⟨RX4, "requireThere", "(LBondDesk$Bond;)V"⟩
abbrev cX4_bondNumbered : ByteArray := prog_1_method_21_code
def yX4_bondNumbered : MethodName := ⟨RX4, "bondNumbered", "(I)LBondDesk$Bond;"⟩
abbrev cX4_worth : ByteArray := prog_1_method_22_code
def yX4_worth : MethodName := ⟨RX4, "worth", "(II)I"⟩
abbrev cX4_yields : ByteArray := prog_1_method_23_code
def yX4_yields : MethodName := ⟨RX4, "yields", "(II)I"⟩
abbrev cX4_moves : ByteArray := prog_1_method_24_code
def yX4_moves : MethodName := ⟨RX4, "moves", "(II)I"⟩
abbrev cX4_callsAt : ByteArray := prog_1_method_25_code
def yX4_callsAt : MethodName := ⟨RX4, "callsAt", "(I)I"⟩
abbrev cX4_requireYield : ByteArray := prog_1_method_26_code
def yX4_requireYield : MethodName := ⟨RX4, "requireYield", "(I)V"⟩
abbrev cX4_requirePrice : ByteArray := prog_1_method_27_code
def yX4_requirePrice : MethodName := ⟨RX4, "requirePrice", "(I)V"⟩
abbrev cX4_buy : ByteArray := prog_1_method_28_code
def yX4_buy : MethodName := ⟨RX4, "buy", "(III)J"⟩
abbrev cX4_sell : ByteArray := prog_1_method_29_code
def yX4_sell : MethodName := ⟨RX4, "sell", "(III)J"⟩
abbrev cX4_pass : ByteArray := prog_1_method_30_code
def yX4_pass : MethodName := ⟨RX4, "pass", "(I)J"⟩
abbrev cX4_count : ByteArray := prog_1_method_31_code
def yX4_count : MethodName := ⟨RX4, "count", "(I)J"⟩
abbrev cX4_paysIn : ByteArray := prog_1_method_32_code
def yX4_paysIn : MethodName := ⟨RX4, "paysIn", "(I)J"⟩
abbrev cX4_ladder : ByteArray := prog_1_method_33_code
def yX4_ladder : MethodName := ⟨RX4, "ladder", "(II)I"⟩
abbrev cX4_best : ByteArray := prog_1_method_34_code
def yX4_best : MethodName := ⟨RX4, "best", "(I)I"⟩
abbrev cX4_years : ByteArray := prog_1_method_35_code
def yX4_years : MethodName := ⟨RX4, "years", "()D"⟩
abbrev cX4_digest : ByteArray := prog_1_method_36_code
def yX4_digest : MethodName := ⟨RX4, "digest", "()J"⟩
abbrev cX4_requirePieces : ByteArray := prog_1_method_37_code
def yX4_requirePieces : MethodName := ⟨RX4, "requirePieces", "(I)V"⟩
abbrev cX4_requireYear : ByteArray := prog_1_method_38_code
def yX4_requireYear : MethodName := ⟨RX4, "requireYear", "(I)V"⟩
abbrev cX4_requireWorkingDay : ByteArray := prog_1_method_39_code
def yX4_requireWorkingDay : MethodName := ⟨RX4, "requireWorkingDay", "()V"⟩
abbrev cX4_lookAtBonds : ByteArray := prog_1_method_40_code
def yX4_lookAtBonds : MethodName := ⟨RX4, "lookAtBonds", "()V"⟩
abbrev cX4_leastWorth : ByteArray := prog_1_method_41_code
def yX4_leastWorth : MethodName := ⟨RX4, "leastWorth", "(I)J"⟩
abbrev cX4_tell : ByteArray := prog_1_method_42_code
def yX4_tell : MethodName := ⟨RX4, "tell", "(I)J"⟩
abbrev cX4_bondsThere : ByteArray := prog_1_method_43_code
def yX4_bondsThere : MethodName := ⟨RX4, "bondsThere", "()I"⟩
abbrev cX4_piecesHeld : ByteArray := prog_1_method_44_code
def yX4_piecesHeld : MethodName := ⟨RX4, "piecesHeld", "()I"⟩
abbrev cX4_worthHeld : ByteArray := prog_1_method_45_code
def yX4_worthHeld : MethodName := ⟨RX4, "worthHeld", "()J"⟩
def RX5 : String := "BondDeskModel"
def TX5 : u_T := fun k => match k with
  | 0 => ("BondDeskModel", "thrown", "I", false)
  | 1 => ("BondDeskModel", "today", "I", false)
  | 2 => ("BondDeskModel", "cash", "J", false)
  | 3 => ("BondDeskModel", "rate", "I", false)
  | 4 => ("BondDeskModel", "bonds", "I", false)
  | 5 => ("BondDeskModel", "holidays", "I", false)
  | 6 => ("BondDeskModel", "holiday", "[I", true)
  | 7 => ("BondDeskModel", "of", "[I", true)
  | 8 => ("BondDeskModel", "day", "[I", true)
  | _ => ("BondDeskModel", "paid", "[J", true)
def tyX5 : Nat → FieldType := fun k => match k with
  | 0 => .int
  | 1 => .int
  | 2 => .long
  | 3 => .int
  | 4 => .int
  | 5 => .int
  | 6 => .array .int
  | 7 => .array .int
  | 8 => .array .int
  | _ => .array .long
abbrev wsX50 : List Cond := u_ws RX5 TX5 10
theorem nmX5 : ∀ a, a < 10 → ∀ b, b < 10 → a ≠ b → (TX5 a).2.1 ≠ (TX5 b).2.1 := by decide +kernel
theorem tyX5_ok : ∀ k, k < 10 → parseFieldDescriptor (TX5 k).2.2.1 = some (tyX5 k) := by decide +kernel
abbrev cX5_init : ByteArray := prog_7_method_1_code
def yX5_init : MethodName := ⟨RX5, "<init>", "()V"⟩
abbrev cX5_thrown : ByteArray := prog_7_method_2_code
def yX5_thrown : MethodName := ⟨RX5, "thrown", "()I"⟩
abbrev cX5_no : ByteArray := prog_7_method_3_code
def yX5_no : MethodName := ⟨RX5, "no", "(I)I"⟩
abbrev cX5_isIn : ByteArray := prog_7_method_4_code
def yX5_isIn : MethodName := ⟨RX5, "isIn", "(III)Z"⟩
abbrev cX5_length : ByteArray := prog_7_method_5_code
def yX5_length : MethodName := ⟨RX5, "length", "(II)I"⟩
abbrev cX5_isDate : ByteArray := prog_7_method_6_code
def yX5_isDate : MethodName := ⟨RX5, "isDate", "(I)Z"⟩
abbrev cX5_number : ByteArray := prog_7_method_7_code
def yX5_number : MethodName := ⟨RX5, "number", "(I)I"⟩
abbrev cX5_date : ByteArray := prog_7_method_8_code
def yX5_date : MethodName := ⟨RX5, "date", "(I)I"⟩
abbrev cX5_weekday : ByteArray := prog_7_method_9_code
def yX5_weekday : MethodName := ⟨RX5, "weekday", "(II)I"⟩
abbrev cX5_isWorking : ByteArray := prog_7_method_10_code
def yX5_isWorking : MethodName := ⟨RX5, "isWorking", "(I)Z"⟩
abbrev cX5_firstWorking : ByteArray := prog_7_method_11_code
def yX5_firstWorking : MethodName := ⟨RX5, "firstWorking", "(I)I"⟩
abbrev cX5_later : ByteArray := prog_7_method_12_code
def yX5_later : MethodName := ⟨RX5, "later", "(II)I"⟩
abbrev cX5_weekday_ : ByteArray := prog_7_method_13_code
def yX5_weekday_ : MethodName := ⟨RX5, "weekday", "(I)I"⟩
abbrev cX5_addHoliday : ByteArray := prog_7_method_14_code
def yX5_addHoliday : MethodName := ⟨RX5, "addHoliday", "(I)I"⟩
abbrev cX5_working : ByteArray := prog_7_method_15_code
def yX5_working : MethodName := ⟨RX5, "working", "(I)I"⟩
abbrev cX5_isBond : ByteArray := prog_7_method_16_code
def yX5_isBond : MethodName := ⟨RX5, "isBond", "(I)Z"⟩
abbrev cX5_own : ByteArray := prog_7_method_17_code
def yX5_own : MethodName := ⟨RX5, "own", "(II)I"⟩
abbrev cX5_couponDay : ByteArray := prog_7_method_18_code
def yX5_couponDay : MethodName := ⟨RX5, "couponDay", "(II)I"⟩
abbrev cX5_moved : ByteArray := prog_7_method_19_code
def yX5_moved : MethodName := ⟨RX5, "moved", "(II)I"⟩
abbrev cX5_addBond : ByteArray := prog_7_method_20_code
def yX5_addBond : MethodName := ⟨RX5, "addBond", "(IIIII)I"⟩
abbrev cX5_isThere : ByteArray := prog_7_method_21_code
def yX5_isThere : MethodName := ⟨RX5, "isThere", "(I)Z"⟩
abbrev cX5_isSunk : ByteArray := prog_7_method_22_code
def yX5_isSunk : MethodName := ⟨RX5, "isSunk", "(II)Z"⟩
abbrev cX5_isCalled : ByteArray := prog_7_method_23_code
def yX5_isCalled : MethodName := ⟨RX5, "isCalled", "(II)Z"⟩
abbrev cX5_leftBehind : ByteArray := prog_7_method_24_code
def yX5_leftBehind : MethodName := ⟨RX5, "leftBehind", "(II)I"⟩
abbrev cX5_setSink : ByteArray := prog_7_method_25_code
def yX5_setSink : MethodName := ⟨RX5, "setSink", "(III)I"⟩
abbrev cX5_firstCall : ByteArray := prog_7_method_26_code
def yX5_firstCall : MethodName := ⟨RX5, "firstCall", "(I)I"⟩
abbrev cX5_setCall : ByteArray := prog_7_method_27_code
def yX5_setCall : MethodName := ⟨RX5, "setCall", "(III)I"⟩
abbrev cX5_setRate : ByteArray := prog_7_method_28_code
def yX5_setRate : MethodName := ⟨RX5, "setRate", "(I)I"⟩
abbrev cX5_told : ByteArray := prog_7_method_29_code
def yX5_told : MethodName := ⟨RX5, "told", "(II)I"⟩
abbrev cX5_bond : ByteArray := prog_7_method_30_code
def yX5_bond : MethodName := ⟨RX5, "bond", "(II)I"⟩
abbrev cX5_thirty : ByteArray := prog_7_method_31_code
def yX5_thirty : MethodName := ⟨RX5, "thirty", "(II)I"⟩
abbrev cX5_interest : ByteArray := prog_7_method_32_code
def yX5_interest : MethodName := ⟨RX5, "interest", "(IIIII)I"⟩
abbrev cX5_beginning : ByteArray := prog_7_method_33_code
def yX5_beginning : MethodName := ⟨RX5, "beginning", "(II)I"⟩
abbrev cX5_coupon : ByteArray := prog_7_method_34_code
def yX5_coupon : MethodName := ⟨RX5, "coupon", "(IIJ)I"⟩
abbrev cX5_couponTold : ByteArray := prog_7_method_35_code
def yX5_couponTold : MethodName := ⟨RX5, "couponTold", "(III)I"⟩
abbrev cX5_coupon_ : ByteArray := prog_7_method_36_code
def yX5_coupon_ : MethodName := ⟨RX5, "coupon", "(III)I"⟩
abbrev cX5_behind : ByteArray := prog_7_method_37_code
def yX5_behind : MethodName := ⟨RX5, "behind", "(II)I"⟩
abbrev cX5_accruedOn : ByteArray := prog_7_method_38_code
def yX5_accruedOn : MethodName := ⟨RX5, "accruedOn", "(II)I"⟩
abbrev cX5_accrued : ByteArray := prog_7_method_39_code
def yX5_accrued : MethodName := ⟨RX5, "accrued", "(II)I"⟩
abbrev cX5_worthOn : ByteArray := prog_7_method_40_code
def yX5_worthOn : MethodName := ⟨RX5, "worthOn", "(IIII)J"⟩
abbrev cX5_worthNow : ByteArray := prog_7_method_41_code
def yX5_worthNow : MethodName := ⟨RX5, "worthNow", "(II)J"⟩
abbrev cX5_worth : ByteArray := prog_7_method_42_code
def yX5_worth : MethodName := ⟨RX5, "worth", "(II)I"⟩
abbrev cX5_fullPrice : ByteArray := prog_7_method_43_code
def yX5_fullPrice : MethodName := ⟨RX5, "fullPrice", "(II)J"⟩
abbrev cX5_yielded : ByteArray := prog_7_method_44_code
def yX5_yielded : MethodName := ⟨RX5, "yielded", "(II)I"⟩
abbrev cX5_yields : ByteArray := prog_7_method_45_code
def yX5_yields : MethodName := ⟨RX5, "yields", "(II)I"⟩
abbrev cX5_moves : ByteArray := prog_7_method_46_code
def yX5_moves : MethodName := ⟨RX5, "moves", "(II)I"⟩
abbrev cX5_callPaid : ByteArray := prog_7_method_47_code
def yX5_callPaid : MethodName := ⟨RX5, "callPaid", "(II)J"⟩
abbrev cX5_callsAt : ByteArray := prog_7_method_48_code
def yX5_callsAt : MethodName := ⟨RX5, "callsAt", "(I)I"⟩
abbrev cX5_buy : ByteArray := prog_7_method_49_code
def yX5_buy : MethodName := ⟨RX5, "buy", "(III)J"⟩
abbrev cX5_sell : ByteArray := prog_7_method_50_code
def yX5_sell : MethodName := ⟨RX5, "sell", "(III)J"⟩
abbrev cX5_pay : ByteArray := prog_7_method_51_code
def yX5_pay : MethodName := ⟨RX5, "pay", "(IIJ)J"⟩
abbrev cX5_leave : ByteArray := prog_7_method_52_code
def yX5_leave : MethodName := ⟨RX5, "leave", "(II)V"⟩
abbrev cX5_look : ByteArray := prog_7_method_53_code
def yX5_look : MethodName := ⟨RX5, "look", "(I)J"⟩
abbrev cX5_pass : ByteArray := prog_7_method_54_code
def yX5_pass : MethodName := ⟨RX5, "pass", "(I)J"⟩
abbrev cX5_counted : ByteArray := prog_7_method_55_code
def yX5_counted : MethodName := ⟨RX5, "counted", "(I)J"⟩
abbrev cX5_count : ByteArray := prog_7_method_56_code
def yX5_count : MethodName := ⟨RX5, "count", "(I)J"⟩
abbrev cX5_paysIn : ByteArray := prog_7_method_57_code
def yX5_paysIn : MethodName := ⟨RX5, "paysIn", "(I)J"⟩
abbrev cX5_ladder : ByteArray := prog_7_method_58_code
def yX5_ladder : MethodName := ⟨RX5, "ladder", "(II)I"⟩
abbrev cX5_best : ByteArray := prog_7_method_59_code
def yX5_best : MethodName := ⟨RX5, "best", "(I)I"⟩
abbrev cX5_years : ByteArray := prog_7_method_60_code
def yX5_years : MethodName := ⟨RX5, "years", "()D"⟩
abbrev cX5_digest : ByteArray := prog_7_method_61_code
def yX5_digest : MethodName := ⟨RX5, "digest", "()J"⟩
def RJ9 : String := "java/lang/Math"
def TJ9 : u_T := fun k => match k with
  | _ => ("", "", "", false)
def tyJ9 : Nat → FieldType := fun k => match k with
  | _ => .int
abbrev wsJ90 : List Cond := u_ws RJ9 TJ9 0
theorem nmJ9 : ∀ a, a < 0 → ∀ b, b < 0 → a ≠ b → (TJ9 a).2.1 ≠ (TJ9 b).2.1 := by decide +kernel
theorem tyJ9_ok : ∀ k, k < 0 → parseFieldDescriptor (TJ9 k).2.2.1 = some (tyJ9 k) := by decide +kernel
abbrev cJ9_max_7cf53 : ByteArray := prog_12_method_65_code
def yJ9_max_7cf53 : MethodName := ⟨RJ9, "max", "(II)I"⟩
abbrev cJ9_min_7cf53 : ByteArray := prog_12_method_69_code
def yJ9_min_7cf53 : MethodName := ⟨RJ9, "min", "(II)I"⟩
abbrev cJ9_min_f86c9 : ByteArray := prog_12_method_70_code
def yJ9_min_f86c9 : MethodName := ⟨RJ9, "min", "(JJ)J"⟩
def RJ0 : String := "java/lang/String"
def TJ0 : u_T := fun k => match k with
  | _ => ("", "", "", false)
def tyJ0 : Nat → FieldType := fun k => match k with
  | _ => .int
abbrev wsJ00 : List Cond := u_ws RJ0 TJ0 0
theorem nmJ0 : ∀ a, a < 0 → ∀ b, b < 0 → a ≠ b → (TJ0 a).2.1 ≠ (TJ0 b).2.1 := by decide +kernel
theorem tyJ0_ok : ∀ k, k < 0 → parseFieldDescriptor (TJ0 k).2.2.1 = some (tyJ0 k) := by decide +kernel
def RJ10 : String := "java/lang/System"
def TJ10 : u_T := fun k => match k with
  | _ => ("", "", "", false)
def tyJ10 : Nat → FieldType := fun k => match k with
  | _ => .int
abbrev wsJ100 : List Cond := u_ws RJ10 TJ10 0
theorem nmJ10 : ∀ a, a < 0 → ∀ b, b < 0 → a ≠ b → (TJ10 a).2.1 ≠ (TJ10 b).2.1 := by decide +kernel
theorem tyJ10_ok : ∀ k, k < 0 → parseFieldDescriptor (TJ10 k).2.2.1 = some (tyJ10 k) := by decide +kernel
def RL : String := "BondDeskLaw"
abbrev cL_later : ByteArray := method_3_code
def yL_later : MethodName := ⟨RL, "later", "(LBondDesk;II[J)I"⟩
abbrev cL_weekday : ByteArray := method_4_code
def yL_weekday : MethodName := ⟨RL, "weekday", "(LBondDesk;I[J)I"⟩
abbrev cL_addHoliday : ByteArray := method_5_code
def yL_addHoliday : MethodName := ⟨RL, "addHoliday", "(LBondDesk;I[J)I"⟩
abbrev cL_working : ByteArray := method_6_code
def yL_working : MethodName := ⟨RL, "working", "(LBondDesk;I[J)I"⟩
abbrev cL_addBond : ByteArray := method_7_code
def yL_addBond : MethodName := ⟨RL, "addBond", "(LBondDesk;IIIII[J)I"⟩
abbrev cL_setSink : ByteArray := method_8_code
def yL_setSink : MethodName := ⟨RL, "setSink", "(LBondDesk;III[J)I"⟩
abbrev cL_setCall : ByteArray := method_9_code
def yL_setCall : MethodName := ⟨RL, "setCall", "(LBondDesk;III[J)I"⟩
abbrev cL_setRate : ByteArray := method_10_code
def yL_setRate : MethodName := ⟨RL, "setRate", "(LBondDesk;I[J)I"⟩
abbrev cL_bond : ByteArray := method_11_code
def yL_bond : MethodName := ⟨RL, "bond", "(LBondDesk;II[J)I"⟩
abbrev cL_coupon : ByteArray := method_12_code
def yL_coupon : MethodName := ⟨RL, "coupon", "(LBondDesk;III[J)I"⟩
abbrev cL_accrued : ByteArray := method_13_code
def yL_accrued : MethodName := ⟨RL, "accrued", "(LBondDesk;II[J)I"⟩
abbrev cL_worth : ByteArray := method_14_code
def yL_worth : MethodName := ⟨RL, "worth", "(LBondDesk;II[J)I"⟩
abbrev cL_yields : ByteArray := method_15_code
def yL_yields : MethodName := ⟨RL, "yields", "(LBondDesk;II[J)I"⟩
abbrev cL_moves : ByteArray := method_16_code
def yL_moves : MethodName := ⟨RL, "moves", "(LBondDesk;II[J)I"⟩
abbrev cL_callsAt : ByteArray := method_17_code
def yL_callsAt : MethodName := ⟨RL, "callsAt", "(LBondDesk;I[J)I"⟩
abbrev cL_buy : ByteArray := method_18_code
def yL_buy : MethodName := ⟨RL, "buy", "(LBondDesk;III[J)I"⟩
abbrev cL_sell : ByteArray := method_19_code
def yL_sell : MethodName := ⟨RL, "sell", "(LBondDesk;III[J)I"⟩
abbrev cL_pass : ByteArray := method_20_code
def yL_pass : MethodName := ⟨RL, "pass", "(LBondDesk;I[J)I"⟩
abbrev cL_count : ByteArray := method_21_code
def yL_count : MethodName := ⟨RL, "count", "(LBondDesk;I[J)I"⟩
abbrev cL_paysIn : ByteArray := method_22_code
def yL_paysIn : MethodName := ⟨RL, "paysIn", "(LBondDesk;I[J)I"⟩
abbrev cL_ladder : ByteArray := method_23_code
def yL_ladder : MethodName := ⟨RL, "ladder", "(LBondDesk;II[J)I"⟩
abbrev cL_best : ByteArray := method_24_code
def yL_best : MethodName := ⟨RL, "best", "(LBondDesk;I[J)I"⟩
abbrev cL_law : ByteArray := code
def yL_law : MethodName := ⟨RL, "law", "([I)Z"⟩
def wsX3_firstBehind : List Cond := .code yX3_firstBehind cX3_firstBehind 3 (some .int) :: ([.fieldLink RX3 41 "BondDesk$Schedule" "dates" "[I"] ++ wsX30)
def wsX0_init : List Cond := .code yX0_init cX0_init 3 none :: ([.methodLink RX0 3 objectInit, .instanceMethod objectInit, .code objectInit ⟨#[0xb1]⟩ 1 none, .fieldLink RX0 9 "BondDesk$Bond" "schedule" "LBondDesk$Schedule;", .fieldLink RX0 15 "BondDesk$Bond" "factor" "I", .fieldLink RX0 25 "BondDesk$Bond" "next" "I", .methodLink RX0 19 yX3_firstBehind, .instanceMethod yX3_firstBehind, .selects RX3 yX3_firstBehind yX3_firstBehind, .initialized RX3, .code yX3_firstBehind cX3_firstBehind 3 (some .int), .fieldLink RX3 41 "BondDesk$Schedule" "dates" "[I"] ++ wsX00 ++ wsX30)
def wsX0_isGone : List Cond := .code yX0_isGone cX0_isGone 1 (some .boolean) :: ([.fieldLink RX0 28 "BondDesk$Bond" "state" "I"] ++ wsX00)
def wsX0_isIssued : List Cond := .code yX0_isIssued cX0_isIssued 2 (some .boolean) :: ([.fieldLink RX0 9 "BondDesk$Bond" "schedule" "LBondDesk$Schedule;", .fieldLink RX0 31 "BondDesk$Schedule" "issue" "I"] ++ wsX00 ++ wsX30)
def wsX1_yearOf : List Cond := .code yX1_yearOf cX1_yearOf 1 (some .int) :: ([])
def wsX0_isRung : List Cond := .code yX0_isRung cX0_isRung 3 (some .boolean) :: ([.fieldLink RX0 9 "BondDesk$Bond" "schedule" "LBondDesk$Schedule;", .fieldLink RX0 42 "BondDesk$Schedule" "end" "I", .methodLink RX0 34 yX0_isGone, .instanceMethod yX0_isGone, .selects RX0 yX0_isGone yX0_isGone, .initialized RX0, .code yX0_isGone cX0_isGone 1 (some .boolean), .fieldLink RX0 28 "BondDesk$Bond" "state" "I", .methodLink RX0 38 yX0_isIssued, .instanceMethod yX0_isIssued, .selects RX0 yX0_isIssued yX0_isIssued, .code yX0_isIssued cX0_isIssued 2 (some .boolean), .fieldLink RX0 31 "BondDesk$Schedule" "issue" "I", .methodLink RX0 45 yX1_yearOf, .static yX1_yearOf, .initialized RX1, .code yX1_yearOf cX1_yearOf 1 (some .int)] ++ wsX00 ++ wsX30)
def wsX0_faceOf : List Cond := .code yX0_faceOf cX0_faceOf 1 (some .long) :: ([.constantLong RX0 50 (100000), .constantLong RX0 52 (10000)])
def wsX0_face : List Cond := .code yX0_face cX0_face 1 (some .long) :: ([.fieldLink RX0 15 "BondDesk$Bond" "factor" "I", .methodLink RX0 54 yX0_faceOf, .static yX0_faceOf, .initialized RX0, .code yX0_faceOf cX0_faceOf 1 (some .long), .constantLong RX0 50 (100000), .constantLong RX0 52 (10000)] ++ wsX00)
def wsX1_dayNumber : List Cond := .code yX1_dayNumber cX1_dayNumber 5 (some .int) :: ([.fieldLink RX1 27 "BondDesk$Dates" "AHEAD" "[I"])
def wsX1_daysBetween : List Cond := .code yX1_daysBetween cX1_daysBetween 2 (some .int) :: ([.methodLink RX1 31 yX1_dayNumber, .static yX1_dayNumber, .initialized RX1, .code yX1_dayNumber cX1_dayNumber 5 (some .int), .fieldLink RX1 27 "BondDesk$Dates" "AHEAD" "[I"])
def wsX3_yearOfPeriod : List Cond := .code yX3_yearOfPeriod cX3_yearOfPeriod 3 (some .long) :: ([.fieldLink RX3 22 "BondDesk$Schedule" "way" "I", .constantLong RX3 80 (3650000), .fieldLink RX3 41 "BondDesk$Schedule" "dates" "[I", .constantLong RX3 82 (3600000), .fieldLink RX3 29 "BondDesk$Schedule" "regularBegin" "I", .constantLong RX3 65 (10000), .fieldLink RX3 19 "BondDesk$Schedule" "perYear" "I", .methodLink RX3 77 yX1_daysBetween, .static yX1_daysBetween, .initialized RX1, .code yX1_daysBetween cX1_daysBetween 2 (some .int), .methodLink RX1 31 yX1_dayNumber, .static yX1_dayNumber, .code yX1_dayNumber cX1_dayNumber 5 (some .int), .fieldLink RX1 27 "BondDesk$Dates" "AHEAD" "[I"] ++ wsX30)
def wsX3_beginOf : List Cond := .code yX3_beginOf cX3_beginOf 2 (some .int) :: ([.fieldLink RX3 41 "BondDesk$Schedule" "dates" "[I", .fieldLink RX3 7 "BondDesk$Schedule" "issue" "I"] ++ wsX30)
def wsX1_dayOf : List Cond := .code yX1_dayOf cX1_dayOf 1 (some .int) :: ([])
def wsX1_monthOf : List Cond := .code yX1_monthOf cX1_monthOf 1 (some .int) :: ([])
def wsX1_daysOf30 : List Cond := .code yX1_daysOf30 cX1_daysOf30 4 (some .int) :: ([.methodLink RX1 34 Lib.Math.min.name, .static Lib.Math.min.name, .initialized "java/lang/Math", .code Lib.Math.min.name Lib.Math.min.code 2 (some .int), .methodLink RX1 17 yX1_dayOf, .static yX1_dayOf, .initialized RX1, .code yX1_dayOf cX1_dayOf 1 (some .int), .methodLink RX1 20 yX1_yearOf, .static yX1_yearOf, .code yX1_yearOf cX1_yearOf 1 (some .int), .methodLink RX1 13 yX1_monthOf, .static yX1_monthOf, .code yX1_monthOf cX1_monthOf 1 (some .int)])
def wsX3_daysCounted_r1 : List Cond := [Cond.fieldLink RX3 22 "BondDesk$Schedule" "way" "I", Cond.methodLink RX3 74 yX1_daysOf30, Cond.static yX1_daysOf30, Cond.initialized RX1, Cond.code yX1_daysOf30 cX1_daysOf30 4 (some .int), Cond.methodLink RX1 34 Lib.Math.min.name, Cond.static Lib.Math.min.name, Cond.initialized "java/lang/Math", Cond.code Lib.Math.min.name Lib.Math.min.code 2 (some .int), Cond.methodLink RX1 17 yX1_dayOf, Cond.static yX1_dayOf, Cond.code yX1_dayOf cX1_dayOf 1 (some .int), Cond.methodLink RX1 20 yX1_yearOf, Cond.static yX1_yearOf, Cond.code yX1_yearOf cX1_yearOf 1 (some .int), Cond.methodLink RX1 13 yX1_monthOf, Cond.static yX1_monthOf, Cond.code yX1_monthOf cX1_monthOf 1 (some .int), Cond.methodLink RX3 77 yX1_daysBetween, Cond.static yX1_daysBetween, Cond.code yX1_daysBetween cX1_daysBetween 2 (some .int), Cond.methodLink RX1 31 yX1_dayNumber, Cond.static yX1_dayNumber, Cond.code yX1_dayNumber cX1_dayNumber 5 (some .int)]
def wsX3_daysCounted_r2 : List Cond := [Cond.fieldLink RX1 27 "BondDesk$Dates" "AHEAD" "[I"]
def wsX3_daysCounted : List Cond := .code yX3_daysCounted cX3_daysCounted 3 (some .long) :: ((wsX3_daysCounted_r1 ++ wsX3_daysCounted_r2) ++ wsX30)
def wsX3_accruedFor_r1 : List Cond := [Cond.fieldLink RX3 7 "BondDesk$Schedule" "issue" "I", Cond.fieldLink RX3 41 "BondDesk$Schedule" "dates" "[I", Cond.fieldLink RX3 16 "BondDesk$Schedule" "rate" "I", Cond.methodLink RX3 67 yX3_firstBehind, Cond.instanceMethod yX3_firstBehind, Cond.selects RX3 yX3_firstBehind yX3_firstBehind, Cond.initialized RX3, Cond.code yX3_firstBehind cX3_firstBehind 3 (some .int), Cond.methodLink RX3 53 yX3_yearOfPeriod, Cond.instanceMethod yX3_yearOfPeriod, Cond.selects RX3 yX3_yearOfPeriod yX3_yearOfPeriod, Cond.code yX3_yearOfPeriod cX3_yearOfPeriod 3 (some .long), Cond.fieldLink RX3 22 "BondDesk$Schedule" "way" "I", Cond.constantLong RX3 80 (3650000), Cond.constantLong RX3 82 (3600000), Cond.fieldLink RX3 29 "BondDesk$Schedule" "regularBegin" "I", Cond.constantLong RX3 65 (10000), Cond.fieldLink RX3 19 "BondDesk$Schedule" "perYear" "I", Cond.methodLink RX3 77 yX1_daysBetween, Cond.static yX1_daysBetween, Cond.initialized RX1, Cond.code yX1_daysBetween cX1_daysBetween 2 (some .int), Cond.methodLink RX1 31 yX1_dayNumber, Cond.static yX1_dayNumber]
def wsX3_accruedFor_r2 : List Cond := [Cond.code yX1_dayNumber cX1_dayNumber 5 (some .int), Cond.fieldLink RX1 27 "BondDesk$Dates" "AHEAD" "[I", Cond.methodLink RX3 71 yX3_beginOf, Cond.instanceMethod yX3_beginOf, Cond.selects RX3 yX3_beginOf yX3_beginOf, Cond.code yX3_beginOf cX3_beginOf 2 (some .int), Cond.methodLink RX3 45 yX3_daysCounted, Cond.instanceMethod yX3_daysCounted, Cond.selects RX3 yX3_daysCounted yX3_daysCounted, Cond.code yX3_daysCounted cX3_daysCounted 3 (some .long), Cond.methodLink RX3 74 yX1_daysOf30, Cond.static yX1_daysOf30, Cond.code yX1_daysOf30 cX1_daysOf30 4 (some .int), Cond.methodLink RX1 34 Lib.Math.min.name, Cond.static Lib.Math.min.name, Cond.initialized "java/lang/Math", Cond.code Lib.Math.min.name Lib.Math.min.code 2 (some .int), Cond.methodLink RX1 17 yX1_dayOf, Cond.static yX1_dayOf, Cond.code yX1_dayOf cX1_dayOf 1 (some .int), Cond.methodLink RX1 20 yX1_yearOf, Cond.static yX1_yearOf, Cond.code yX1_yearOf cX1_yearOf 1 (some .int), Cond.methodLink RX1 13 yX1_monthOf]
def wsX3_accruedFor_r3 : List Cond := [Cond.static yX1_monthOf, Cond.code yX1_monthOf cX1_monthOf 1 (some .int)]
def wsX3_accruedFor : List Cond := .code yX3_accruedFor cX3_accruedFor 7 (some .long) :: ((wsX3_accruedFor_r1 ++ (wsX3_accruedFor_r2 ++ wsX3_accruedFor_r3)) ++ wsX30)
def wsX0_accruedOn_r1 : List Cond := [Cond.fieldLink RX0 9 "BondDesk$Bond" "schedule" "LBondDesk$Schedule;", Cond.methodLink RX0 34 yX0_isGone, Cond.instanceMethod yX0_isGone, Cond.selects RX0 yX0_isGone yX0_isGone, Cond.initialized RX0, Cond.code yX0_isGone cX0_isGone 1 (some .boolean), Cond.fieldLink RX0 28 "BondDesk$Bond" "state" "I", Cond.methodLink RX0 58 yX0_face, Cond.instanceMethod yX0_face, Cond.selects RX0 yX0_face yX0_face, Cond.code yX0_face cX0_face 1 (some .long), Cond.fieldLink RX0 15 "BondDesk$Bond" "factor" "I", Cond.methodLink RX0 54 yX0_faceOf, Cond.static yX0_faceOf, Cond.code yX0_faceOf cX0_faceOf 1 (some .long), Cond.constantLong RX0 50 (100000), Cond.constantLong RX0 52 (10000), Cond.methodLink RX0 62 yX3_accruedFor, Cond.instanceMethod yX3_accruedFor, Cond.selects RX3 yX3_accruedFor yX3_accruedFor, Cond.initialized RX3, Cond.code yX3_accruedFor cX3_accruedFor 7 (some .long), Cond.fieldLink RX3 7 "BondDesk$Schedule" "issue" "I", Cond.fieldLink RX3 41 "BondDesk$Schedule" "dates" "[I"]
def wsX0_accruedOn_r2 : List Cond := [Cond.fieldLink RX3 16 "BondDesk$Schedule" "rate" "I", Cond.methodLink RX3 67 yX3_firstBehind, Cond.instanceMethod yX3_firstBehind, Cond.selects RX3 yX3_firstBehind yX3_firstBehind, Cond.code yX3_firstBehind cX3_firstBehind 3 (some .int), Cond.methodLink RX3 53 yX3_yearOfPeriod, Cond.instanceMethod yX3_yearOfPeriod, Cond.selects RX3 yX3_yearOfPeriod yX3_yearOfPeriod, Cond.code yX3_yearOfPeriod cX3_yearOfPeriod 3 (some .long), Cond.fieldLink RX3 22 "BondDesk$Schedule" "way" "I", Cond.constantLong RX3 80 (3650000), Cond.constantLong RX3 82 (3600000), Cond.fieldLink RX3 29 "BondDesk$Schedule" "regularBegin" "I", Cond.constantLong RX3 65 (10000), Cond.fieldLink RX3 19 "BondDesk$Schedule" "perYear" "I", Cond.methodLink RX3 77 yX1_daysBetween, Cond.static yX1_daysBetween, Cond.initialized RX1, Cond.code yX1_daysBetween cX1_daysBetween 2 (some .int), Cond.methodLink RX1 31 yX1_dayNumber, Cond.static yX1_dayNumber, Cond.code yX1_dayNumber cX1_dayNumber 5 (some .int), Cond.fieldLink RX1 27 "BondDesk$Dates" "AHEAD" "[I", Cond.methodLink RX3 71 yX3_beginOf]
def wsX0_accruedOn_r3 : List Cond := [Cond.instanceMethod yX3_beginOf, Cond.selects RX3 yX3_beginOf yX3_beginOf, Cond.code yX3_beginOf cX3_beginOf 2 (some .int), Cond.methodLink RX3 45 yX3_daysCounted, Cond.instanceMethod yX3_daysCounted, Cond.selects RX3 yX3_daysCounted yX3_daysCounted, Cond.code yX3_daysCounted cX3_daysCounted 3 (some .long), Cond.methodLink RX3 74 yX1_daysOf30, Cond.static yX1_daysOf30, Cond.code yX1_daysOf30 cX1_daysOf30 4 (some .int), Cond.methodLink RX1 34 Lib.Math.min.name, Cond.static Lib.Math.min.name, Cond.initialized "java/lang/Math", Cond.code Lib.Math.min.name Lib.Math.min.code 2 (some .int), Cond.methodLink RX1 17 yX1_dayOf, Cond.static yX1_dayOf, Cond.code yX1_dayOf cX1_dayOf 1 (some .int), Cond.methodLink RX1 20 yX1_yearOf, Cond.static yX1_yearOf, Cond.code yX1_yearOf cX1_yearOf 1 (some .int), Cond.methodLink RX1 13 yX1_monthOf, Cond.static yX1_monthOf, Cond.code yX1_monthOf cX1_monthOf 1 (some .int)]
def wsX0_accruedOn : List Cond := .code yX0_accruedOn cX0_accruedOn 2 (some .long) :: ((wsX0_accruedOn_r1 ++ (wsX0_accruedOn_r2 ++ wsX0_accruedOn_r3)) ++ wsX00 ++ wsX30)
def wsX0_fullPrice_r1 : List Cond := [Cond.constantLong RX0 52 (10000), Cond.fieldLink RX0 9 "BondDesk$Bond" "schedule" "LBondDesk$Schedule;", Cond.methodLink RX0 58 yX0_face, Cond.instanceMethod yX0_face, Cond.selects RX0 yX0_face yX0_face, Cond.initialized RX0, Cond.code yX0_face cX0_face 1 (some .long), Cond.fieldLink RX0 15 "BondDesk$Bond" "factor" "I", Cond.methodLink RX0 54 yX0_faceOf, Cond.static yX0_faceOf, Cond.code yX0_faceOf cX0_faceOf 1 (some .long), Cond.constantLong RX0 50 (100000), Cond.methodLink RX0 62 yX3_accruedFor, Cond.instanceMethod yX3_accruedFor, Cond.selects RX3 yX3_accruedFor yX3_accruedFor, Cond.initialized RX3, Cond.code yX3_accruedFor cX3_accruedFor 7 (some .long), Cond.fieldLink RX3 7 "BondDesk$Schedule" "issue" "I", Cond.fieldLink RX3 41 "BondDesk$Schedule" "dates" "[I", Cond.fieldLink RX3 16 "BondDesk$Schedule" "rate" "I", Cond.methodLink RX3 67 yX3_firstBehind, Cond.instanceMethod yX3_firstBehind, Cond.selects RX3 yX3_firstBehind yX3_firstBehind, Cond.code yX3_firstBehind cX3_firstBehind 3 (some .int)]
def wsX0_fullPrice_r2 : List Cond := [Cond.methodLink RX3 53 yX3_yearOfPeriod, Cond.instanceMethod yX3_yearOfPeriod, Cond.selects RX3 yX3_yearOfPeriod yX3_yearOfPeriod, Cond.code yX3_yearOfPeriod cX3_yearOfPeriod 3 (some .long), Cond.fieldLink RX3 22 "BondDesk$Schedule" "way" "I", Cond.constantLong RX3 80 (3650000), Cond.constantLong RX3 82 (3600000), Cond.fieldLink RX3 29 "BondDesk$Schedule" "regularBegin" "I", Cond.constantLong RX3 65 (10000), Cond.fieldLink RX3 19 "BondDesk$Schedule" "perYear" "I", Cond.methodLink RX3 77 yX1_daysBetween, Cond.static yX1_daysBetween, Cond.initialized RX1, Cond.code yX1_daysBetween cX1_daysBetween 2 (some .int), Cond.methodLink RX1 31 yX1_dayNumber, Cond.static yX1_dayNumber, Cond.code yX1_dayNumber cX1_dayNumber 5 (some .int), Cond.fieldLink RX1 27 "BondDesk$Dates" "AHEAD" "[I", Cond.methodLink RX3 71 yX3_beginOf, Cond.instanceMethod yX3_beginOf, Cond.selects RX3 yX3_beginOf yX3_beginOf, Cond.code yX3_beginOf cX3_beginOf 2 (some .int), Cond.methodLink RX3 45 yX3_daysCounted, Cond.instanceMethod yX3_daysCounted]
def wsX0_fullPrice_r3 : List Cond := [Cond.selects RX3 yX3_daysCounted yX3_daysCounted, Cond.code yX3_daysCounted cX3_daysCounted 3 (some .long), Cond.methodLink RX3 74 yX1_daysOf30, Cond.static yX1_daysOf30, Cond.code yX1_daysOf30 cX1_daysOf30 4 (some .int), Cond.methodLink RX1 34 Lib.Math.min.name, Cond.static Lib.Math.min.name, Cond.initialized "java/lang/Math", Cond.code Lib.Math.min.name Lib.Math.min.code 2 (some .int), Cond.methodLink RX1 17 yX1_dayOf, Cond.static yX1_dayOf, Cond.code yX1_dayOf cX1_dayOf 1 (some .int), Cond.methodLink RX1 20 yX1_yearOf, Cond.static yX1_yearOf, Cond.code yX1_yearOf cX1_yearOf 1 (some .int), Cond.methodLink RX1 13 yX1_monthOf, Cond.static yX1_monthOf, Cond.code yX1_monthOf cX1_monthOf 1 (some .int)]
def wsX0_fullPrice : List Cond := .code yX0_fullPrice cX0_fullPrice 3 (some .long) :: ((wsX0_fullPrice_r1 ++ (wsX0_fullPrice_r2 ++ wsX0_fullPrice_r3)) ++ wsX00 ++ wsX30)
def wsX0_isEnd : List Cond := .code yX0_isEnd cX0_isEnd 2 (some .boolean) :: ([.fieldLink RX0 9 "BondDesk$Bond" "schedule" "LBondDesk$Schedule;", .fieldLink RX0 66 "BondDesk$Schedule" "dates" "[I"] ++ wsX00 ++ wsX30)
def wsX0_sunkOn : List Cond := .code yX0_sunkOn cX0_sunkOn 4 (some .int) :: ([.fieldLink RX0 9 "BondDesk$Bond" "schedule" "LBondDesk$Schedule;", .fieldLink RX0 66 "BondDesk$Schedule" "dates" "[I", .fieldLink RX0 70 "BondDesk$Bond" "sinkFrom" "I", .fieldLink RX0 73 "BondDesk$Bond" "sinkPart" "I", .methodLink RX0 76 Lib.Math.min.name, .static Lib.Math.min.name, .initialized "java/lang/Math", .code Lib.Math.min.name Lib.Math.min.code 2 (some .int)] ++ wsX00 ++ wsX30)
def wsX3_couponFor : List Cond := .code yX3_couponFor cX3_couponFor 6 (some .long) :: ([.fieldLink RX3 29 "BondDesk$Schedule" "regularBegin" "I", .fieldLink RX3 7 "BondDesk$Schedule" "issue" "I", .fieldLink RX3 57 "BondDesk$Schedule" "firstYear" "J", .fieldLink RX3 16 "BondDesk$Schedule" "rate" "I", .fieldLink RX3 49 "BondDesk$Schedule" "firstDays" "J", .constantLong RX3 65 (10000), .fieldLink RX3 19 "BondDesk$Schedule" "perYear" "I"] ++ wsX30)
def wsX0_paymentOn_r1 : List Cond := [Cond.fieldLink RX0 9 "BondDesk$Bond" "schedule" "LBondDesk$Schedule;", Cond.methodLink RX0 54 yX0_faceOf, Cond.static yX0_faceOf, Cond.initialized RX0, Cond.code yX0_faceOf cX0_faceOf 1 (some .long), Cond.constantLong RX0 50 (100000), Cond.constantLong RX0 52 (10000), Cond.methodLink RX0 82 yX3_couponFor, Cond.instanceMethod yX3_couponFor, Cond.selects RX3 yX3_couponFor yX3_couponFor, Cond.initialized RX3, Cond.code yX3_couponFor cX3_couponFor 6 (some .long), Cond.fieldLink RX3 29 "BondDesk$Schedule" "regularBegin" "I", Cond.fieldLink RX3 7 "BondDesk$Schedule" "issue" "I", Cond.fieldLink RX3 57 "BondDesk$Schedule" "firstYear" "J", Cond.fieldLink RX3 16 "BondDesk$Schedule" "rate" "I", Cond.fieldLink RX3 49 "BondDesk$Schedule" "firstDays" "J", Cond.constantLong RX3 65 (10000), Cond.fieldLink RX3 19 "BondDesk$Schedule" "perYear" "I", Cond.methodLink RX0 85 yX0_isEnd, Cond.instanceMethod yX0_isEnd, Cond.selects RX0 yX0_isEnd yX0_isEnd, Cond.code yX0_isEnd cX0_isEnd 2 (some .boolean), Cond.fieldLink RX0 66 "BondDesk$Schedule" "dates" "[I"]
def wsX0_paymentOn_r2 : List Cond := [Cond.methodLink RX0 88 yX0_sunkOn, Cond.instanceMethod yX0_sunkOn, Cond.selects RX0 yX0_sunkOn yX0_sunkOn, Cond.code yX0_sunkOn cX0_sunkOn 4 (some .int), Cond.fieldLink RX0 70 "BondDesk$Bond" "sinkFrom" "I", Cond.fieldLink RX0 73 "BondDesk$Bond" "sinkPart" "I", Cond.methodLink RX0 76 Lib.Math.min.name, Cond.static Lib.Math.min.name, Cond.initialized "java/lang/Math", Cond.code Lib.Math.min.name Lib.Math.min.code 2 (some .int)]
def wsX0_paymentOn : List Cond := .code yX0_paymentOn cX0_paymentOn 3 (some .long) :: ((wsX0_paymentOn_r1 ++ wsX0_paymentOn_r2) ++ wsX00 ++ wsX30)
def wsX0_factorBehind : List Cond := .code yX0_factorBehind cX0_factorBehind 4 (some .int) :: ([.fieldLink RX0 15 "BondDesk$Bond" "factor" "I", .fieldLink RX0 25 "BondDesk$Bond" "next" "I", .methodLink RX0 88 yX0_sunkOn, .instanceMethod yX0_sunkOn, .selects RX0 yX0_sunkOn yX0_sunkOn, .initialized RX0, .code yX0_sunkOn cX0_sunkOn 4 (some .int), .fieldLink RX0 9 "BondDesk$Bond" "schedule" "LBondDesk$Schedule;", .fieldLink RX0 66 "BondDesk$Schedule" "dates" "[I", .fieldLink RX0 70 "BondDesk$Bond" "sinkFrom" "I", .fieldLink RX0 73 "BondDesk$Bond" "sinkPart" "I", .methodLink RX0 76 Lib.Math.min.name, .static Lib.Math.min.name, .initialized "java/lang/Math", .code Lib.Math.min.name Lib.Math.min.code 2 (some .int)] ++ wsX00 ++ wsX30)
def wsX0_worthAt_r1 : List Cond := [Cond.fieldLink RX0 9 "BondDesk$Bond" "schedule" "LBondDesk$Schedule;", Cond.constantLong RX0 52 (10000), Cond.fieldLink RX0 91 "BondDesk$Schedule" "perYear" "I", Cond.fieldLink RX0 66 "BondDesk$Schedule" "dates" "[I", Cond.constantLong RX0 94 (3650000), Cond.constantLong RX0 99 (3650000000000000), Cond.constantLong RX0 105 (1000000000), Cond.methodLink RX0 19 yX3_firstBehind, Cond.instanceMethod yX3_firstBehind, Cond.selects RX3 yX3_firstBehind yX3_firstBehind, Cond.initialized RX3, Cond.code yX3_firstBehind cX3_firstBehind 3 (some .int), Cond.fieldLink RX3 41 "BondDesk$Schedule" "dates" "[I", Cond.methodLink RX0 34 yX0_isGone, Cond.instanceMethod yX0_isGone, Cond.selects RX0 yX0_isGone yX0_isGone, Cond.initialized RX0, Cond.code yX0_isGone cX0_isGone 1 (some .boolean), Cond.fieldLink RX0 28 "BondDesk$Bond" "state" "I", Cond.methodLink RX0 96 yX1_daysBetween, Cond.static yX1_daysBetween, Cond.initialized RX1, Cond.code yX1_daysBetween cX1_daysBetween 2 (some .int), Cond.methodLink RX1 31 yX1_dayNumber]
def wsX0_worthAt_r2 : List Cond := [Cond.static yX1_dayNumber, Cond.code yX1_dayNumber cX1_dayNumber 5 (some .int), Cond.fieldLink RX1 27 "BondDesk$Dates" "AHEAD" "[I", Cond.methodLink RX0 101 yX0_paymentOn, Cond.instanceMethod yX0_paymentOn, Cond.selects RX0 yX0_paymentOn yX0_paymentOn, Cond.code yX0_paymentOn cX0_paymentOn 3 (some .long), Cond.methodLink RX0 54 yX0_faceOf, Cond.static yX0_faceOf, Cond.code yX0_faceOf cX0_faceOf 1 (some .long), Cond.constantLong RX0 50 (100000), Cond.methodLink RX0 82 yX3_couponFor, Cond.instanceMethod yX3_couponFor, Cond.selects RX3 yX3_couponFor yX3_couponFor, Cond.code yX3_couponFor cX3_couponFor 6 (some .long), Cond.fieldLink RX3 29 "BondDesk$Schedule" "regularBegin" "I", Cond.fieldLink RX3 7 "BondDesk$Schedule" "issue" "I", Cond.fieldLink RX3 57 "BondDesk$Schedule" "firstYear" "J", Cond.fieldLink RX3 16 "BondDesk$Schedule" "rate" "I", Cond.fieldLink RX3 49 "BondDesk$Schedule" "firstDays" "J", Cond.constantLong RX3 65 (10000), Cond.fieldLink RX3 19 "BondDesk$Schedule" "perYear" "I", Cond.methodLink RX0 85 yX0_isEnd, Cond.instanceMethod yX0_isEnd]
def wsX0_worthAt_r3 : List Cond := [Cond.selects RX0 yX0_isEnd yX0_isEnd, Cond.code yX0_isEnd cX0_isEnd 2 (some .boolean), Cond.methodLink RX0 88 yX0_sunkOn, Cond.instanceMethod yX0_sunkOn, Cond.selects RX0 yX0_sunkOn yX0_sunkOn, Cond.code yX0_sunkOn cX0_sunkOn 4 (some .int), Cond.fieldLink RX0 70 "BondDesk$Bond" "sinkFrom" "I", Cond.fieldLink RX0 73 "BondDesk$Bond" "sinkPart" "I", Cond.methodLink RX0 76 Lib.Math.min.name, Cond.static Lib.Math.min.name, Cond.initialized "java/lang/Math", Cond.code Lib.Math.min.name Lib.Math.min.code 2 (some .int)]
def wsX0_worthAt : List Cond := .code yX0_worthAt cX0_worthAt 14 (some .long) :: ((wsX0_worthAt_r1 ++ (wsX0_worthAt_r2 ++ wsX0_worthAt_r3)) ++ wsX00 ++ wsX30)
def wsX0_greatestRate_r1 : List Cond := [Cond.methodLink RX0 107 yX0_worthAt, Cond.instanceMethod yX0_worthAt, Cond.selects RX0 yX0_worthAt yX0_worthAt, Cond.initialized RX0, Cond.code yX0_worthAt cX0_worthAt 14 (some .long), Cond.fieldLink RX0 9 "BondDesk$Bond" "schedule" "LBondDesk$Schedule;", Cond.constantLong RX0 52 (10000), Cond.fieldLink RX0 91 "BondDesk$Schedule" "perYear" "I", Cond.fieldLink RX0 66 "BondDesk$Schedule" "dates" "[I", Cond.constantLong RX0 94 (3650000), Cond.constantLong RX0 99 (3650000000000000), Cond.constantLong RX0 105 (1000000000), Cond.methodLink RX0 19 yX3_firstBehind, Cond.instanceMethod yX3_firstBehind, Cond.selects RX3 yX3_firstBehind yX3_firstBehind, Cond.initialized RX3, Cond.code yX3_firstBehind cX3_firstBehind 3 (some .int), Cond.fieldLink RX3 41 "BondDesk$Schedule" "dates" "[I", Cond.methodLink RX0 34 yX0_isGone, Cond.instanceMethod yX0_isGone, Cond.selects RX0 yX0_isGone yX0_isGone, Cond.code yX0_isGone cX0_isGone 1 (some .boolean), Cond.fieldLink RX0 28 "BondDesk$Bond" "state" "I", Cond.methodLink RX0 96 yX1_daysBetween]
def wsX0_greatestRate_r2 : List Cond := [Cond.static yX1_daysBetween, Cond.initialized RX1, Cond.code yX1_daysBetween cX1_daysBetween 2 (some .int), Cond.methodLink RX1 31 yX1_dayNumber, Cond.static yX1_dayNumber, Cond.code yX1_dayNumber cX1_dayNumber 5 (some .int), Cond.fieldLink RX1 27 "BondDesk$Dates" "AHEAD" "[I", Cond.methodLink RX0 101 yX0_paymentOn, Cond.instanceMethod yX0_paymentOn, Cond.selects RX0 yX0_paymentOn yX0_paymentOn, Cond.code yX0_paymentOn cX0_paymentOn 3 (some .long), Cond.methodLink RX0 54 yX0_faceOf, Cond.static yX0_faceOf, Cond.code yX0_faceOf cX0_faceOf 1 (some .long), Cond.constantLong RX0 50 (100000), Cond.methodLink RX0 82 yX3_couponFor, Cond.instanceMethod yX3_couponFor, Cond.selects RX3 yX3_couponFor yX3_couponFor, Cond.code yX3_couponFor cX3_couponFor 6 (some .long), Cond.fieldLink RX3 29 "BondDesk$Schedule" "regularBegin" "I", Cond.fieldLink RX3 7 "BondDesk$Schedule" "issue" "I", Cond.fieldLink RX3 57 "BondDesk$Schedule" "firstYear" "J", Cond.fieldLink RX3 16 "BondDesk$Schedule" "rate" "I", Cond.fieldLink RX3 49 "BondDesk$Schedule" "firstDays" "J"]
def wsX0_greatestRate_r3 : List Cond := [Cond.constantLong RX3 65 (10000), Cond.fieldLink RX3 19 "BondDesk$Schedule" "perYear" "I", Cond.methodLink RX0 85 yX0_isEnd, Cond.instanceMethod yX0_isEnd, Cond.selects RX0 yX0_isEnd yX0_isEnd, Cond.code yX0_isEnd cX0_isEnd 2 (some .boolean), Cond.methodLink RX0 88 yX0_sunkOn, Cond.instanceMethod yX0_sunkOn, Cond.selects RX0 yX0_sunkOn yX0_sunkOn, Cond.code yX0_sunkOn cX0_sunkOn 4 (some .int), Cond.fieldLink RX0 70 "BondDesk$Bond" "sinkFrom" "I", Cond.fieldLink RX0 73 "BondDesk$Bond" "sinkPart" "I", Cond.methodLink RX0 76 Lib.Math.min.name, Cond.static Lib.Math.min.name, Cond.initialized "java/lang/Math", Cond.code Lib.Math.min.name Lib.Math.min.code 2 (some .int)]
def wsX0_greatestRate : List Cond := .code yX0_greatestRate cX0_greatestRate 8 (some .int) :: ((wsX0_greatestRate_r1 ++ (wsX0_greatestRate_r2 ++ wsX0_greatestRate_r3)) ++ wsX00 ++ wsX30)
def wsX0_yieldAt_r1 : List Cond := [Cond.fieldLink RX0 15 "BondDesk$Bond" "factor" "I", Cond.methodLink RX0 34 yX0_isGone, Cond.instanceMethod yX0_isGone, Cond.selects RX0 yX0_isGone yX0_isGone, Cond.initialized RX0, Cond.code yX0_isGone cX0_isGone 1 (some .boolean), Cond.fieldLink RX0 28 "BondDesk$Bond" "state" "I", Cond.methodLink RX0 111 yX0_fullPrice, Cond.instanceMethod yX0_fullPrice, Cond.selects RX0 yX0_fullPrice yX0_fullPrice, Cond.code yX0_fullPrice cX0_fullPrice 3 (some .long), Cond.constantLong RX0 52 (10000), Cond.fieldLink RX0 9 "BondDesk$Bond" "schedule" "LBondDesk$Schedule;", Cond.methodLink RX0 58 yX0_face, Cond.instanceMethod yX0_face, Cond.selects RX0 yX0_face yX0_face, Cond.code yX0_face cX0_face 1 (some .long), Cond.methodLink RX0 54 yX0_faceOf, Cond.static yX0_faceOf, Cond.code yX0_faceOf cX0_faceOf 1 (some .long), Cond.constantLong RX0 50 (100000), Cond.methodLink RX0 62 yX3_accruedFor, Cond.instanceMethod yX3_accruedFor, Cond.selects RX3 yX3_accruedFor yX3_accruedFor]
def wsX0_yieldAt_r2 : List Cond := [Cond.initialized RX3, Cond.code yX3_accruedFor cX3_accruedFor 7 (some .long), Cond.fieldLink RX3 7 "BondDesk$Schedule" "issue" "I", Cond.fieldLink RX3 41 "BondDesk$Schedule" "dates" "[I", Cond.fieldLink RX3 16 "BondDesk$Schedule" "rate" "I", Cond.methodLink RX3 67 yX3_firstBehind, Cond.instanceMethod yX3_firstBehind, Cond.selects RX3 yX3_firstBehind yX3_firstBehind, Cond.code yX3_firstBehind cX3_firstBehind 3 (some .int), Cond.methodLink RX3 53 yX3_yearOfPeriod, Cond.instanceMethod yX3_yearOfPeriod, Cond.selects RX3 yX3_yearOfPeriod yX3_yearOfPeriod, Cond.code yX3_yearOfPeriod cX3_yearOfPeriod 3 (some .long), Cond.fieldLink RX3 22 "BondDesk$Schedule" "way" "I", Cond.constantLong RX3 80 (3650000), Cond.constantLong RX3 82 (3600000), Cond.fieldLink RX3 29 "BondDesk$Schedule" "regularBegin" "I", Cond.constantLong RX3 65 (10000), Cond.fieldLink RX3 19 "BondDesk$Schedule" "perYear" "I", Cond.methodLink RX3 77 yX1_daysBetween, Cond.static yX1_daysBetween, Cond.initialized RX1, Cond.code yX1_daysBetween cX1_daysBetween 2 (some .int), Cond.methodLink RX1 31 yX1_dayNumber]
def wsX0_yieldAt_r3 : List Cond := [Cond.static yX1_dayNumber, Cond.code yX1_dayNumber cX1_dayNumber 5 (some .int), Cond.fieldLink RX1 27 "BondDesk$Dates" "AHEAD" "[I", Cond.methodLink RX3 71 yX3_beginOf, Cond.instanceMethod yX3_beginOf, Cond.selects RX3 yX3_beginOf yX3_beginOf, Cond.code yX3_beginOf cX3_beginOf 2 (some .int), Cond.methodLink RX3 45 yX3_daysCounted, Cond.instanceMethod yX3_daysCounted, Cond.selects RX3 yX3_daysCounted yX3_daysCounted, Cond.code yX3_daysCounted cX3_daysCounted 3 (some .long), Cond.methodLink RX3 74 yX1_daysOf30, Cond.static yX1_daysOf30, Cond.code yX1_daysOf30 cX1_daysOf30 4 (some .int), Cond.methodLink RX1 34 Lib.Math.min.name, Cond.static Lib.Math.min.name, Cond.initialized "java/lang/Math", Cond.code Lib.Math.min.name Lib.Math.min.code 2 (some .int), Cond.methodLink RX1 17 yX1_dayOf, Cond.static yX1_dayOf, Cond.code yX1_dayOf cX1_dayOf 1 (some .int), Cond.methodLink RX1 20 yX1_yearOf, Cond.static yX1_yearOf, Cond.code yX1_yearOf cX1_yearOf 1 (some .int)]
def wsX0_yieldAt_r4 : List Cond := [Cond.methodLink RX1 13 yX1_monthOf, Cond.static yX1_monthOf, Cond.code yX1_monthOf cX1_monthOf 1 (some .int), Cond.methodLink RX0 114 yX0_greatestRate, Cond.instanceMethod yX0_greatestRate, Cond.selects RX0 yX0_greatestRate yX0_greatestRate, Cond.code yX0_greatestRate cX0_greatestRate 8 (some .int), Cond.methodLink RX0 107 yX0_worthAt, Cond.instanceMethod yX0_worthAt, Cond.selects RX0 yX0_worthAt yX0_worthAt, Cond.code yX0_worthAt cX0_worthAt 14 (some .long), Cond.fieldLink RX0 91 "BondDesk$Schedule" "perYear" "I", Cond.fieldLink RX0 66 "BondDesk$Schedule" "dates" "[I", Cond.constantLong RX0 94 (3650000), Cond.constantLong RX0 99 (3650000000000000), Cond.constantLong RX0 105 (1000000000), Cond.methodLink RX0 19 yX3_firstBehind, Cond.methodLink RX0 96 yX1_daysBetween, Cond.methodLink RX0 101 yX0_paymentOn, Cond.instanceMethod yX0_paymentOn, Cond.selects RX0 yX0_paymentOn yX0_paymentOn, Cond.code yX0_paymentOn cX0_paymentOn 3 (some .long), Cond.methodLink RX0 82 yX3_couponFor, Cond.instanceMethod yX3_couponFor]
def wsX0_yieldAt_r5 : List Cond := [Cond.selects RX3 yX3_couponFor yX3_couponFor, Cond.code yX3_couponFor cX3_couponFor 6 (some .long), Cond.fieldLink RX3 57 "BondDesk$Schedule" "firstYear" "J", Cond.fieldLink RX3 49 "BondDesk$Schedule" "firstDays" "J", Cond.methodLink RX0 85 yX0_isEnd, Cond.instanceMethod yX0_isEnd, Cond.selects RX0 yX0_isEnd yX0_isEnd, Cond.code yX0_isEnd cX0_isEnd 2 (some .boolean), Cond.methodLink RX0 88 yX0_sunkOn, Cond.instanceMethod yX0_sunkOn, Cond.selects RX0 yX0_sunkOn yX0_sunkOn, Cond.code yX0_sunkOn cX0_sunkOn 4 (some .int), Cond.fieldLink RX0 70 "BondDesk$Bond" "sinkFrom" "I", Cond.fieldLink RX0 73 "BondDesk$Bond" "sinkPart" "I", Cond.methodLink RX0 76 Lib.Math.min.name]
def wsX0_yieldAt : List Cond := .code yX0_yieldAt cX0_yieldAt 3 (some .int) :: ((wsX0_yieldAt_r1 ++ (wsX0_yieldAt_r2 ++ (wsX0_yieldAt_r3 ++ (wsX0_yieldAt_r4 ++ wsX0_yieldAt_r5)))) ++ wsX00 ++ wsX30)
def wsX0_isCallDate : List Cond := .code yX0_isCallDate cX0_isCallDate 2 (some .boolean) :: ([.fieldLink RX0 118 "BondDesk$Bond" "callPrice" "I", .fieldLink RX0 9 "BondDesk$Bond" "schedule" "LBondDesk$Schedule;", .fieldLink RX0 66 "BondDesk$Schedule" "dates" "[I", .fieldLink RX0 121 "BondDesk$Bond" "callFrom" "I"] ++ wsX00 ++ wsX30)
def wsX0_callPayment : List Cond := .code yX0_callPayment cX0_callPayment 2 (some .long) :: ([.fieldLink RX0 118 "BondDesk$Bond" "callPrice" "I", .constantLong RX0 52 (10000), .methodLink RX0 54 yX0_faceOf, .static yX0_faceOf, .initialized RX0, .code yX0_faceOf cX0_faceOf 1 (some .long), .constantLong RX0 50 (100000)] ++ wsX00)
def wsX0_firstCall : List Cond := .code yX0_firstCall cX0_firstCall 2 (some .int) :: ([.fieldLink RX0 25 "BondDesk$Bond" "next" "I", .fieldLink RX0 9 "BondDesk$Bond" "schedule" "LBondDesk$Schedule;", .fieldLink RX0 66 "BondDesk$Schedule" "dates" "[I", .methodLink RX0 124 yX0_isCallDate, .instanceMethod yX0_isCallDate, .selects RX0 yX0_isCallDate yX0_isCallDate, .initialized RX0, .code yX0_isCallDate cX0_isCallDate 2 (some .boolean), .fieldLink RX0 118 "BondDesk$Bond" "callPrice" "I", .fieldLink RX0 121 "BondDesk$Bond" "callFrom" "I"] ++ wsX00 ++ wsX30)
def wsX0_rateOfCall_r1 : List Cond := [Cond.fieldLink RX0 9 "BondDesk$Bond" "schedule" "LBondDesk$Schedule;", Cond.fieldLink RX0 66 "BondDesk$Schedule" "dates" "[I", Cond.methodLink RX0 34 yX0_isGone, Cond.instanceMethod yX0_isGone, Cond.selects RX0 yX0_isGone yX0_isGone, Cond.initialized RX0, Cond.code yX0_isGone cX0_isGone 1 (some .boolean), Cond.fieldLink RX0 28 "BondDesk$Bond" "state" "I", Cond.methodLink RX0 127 yX0_firstCall, Cond.instanceMethod yX0_firstCall, Cond.selects RX0 yX0_firstCall yX0_firstCall, Cond.code yX0_firstCall cX0_firstCall 2 (some .int), Cond.fieldLink RX0 25 "BondDesk$Bond" "next" "I", Cond.methodLink RX0 124 yX0_isCallDate, Cond.instanceMethod yX0_isCallDate, Cond.selects RX0 yX0_isCallDate yX0_isCallDate, Cond.code yX0_isCallDate cX0_isCallDate 2 (some .boolean), Cond.fieldLink RX0 118 "BondDesk$Bond" "callPrice" "I", Cond.fieldLink RX0 121 "BondDesk$Bond" "callFrom" "I", Cond.methodLink RX0 131 yX0_factorBehind, Cond.instanceMethod yX0_factorBehind, Cond.selects RX0 yX0_factorBehind yX0_factorBehind, Cond.code yX0_factorBehind cX0_factorBehind 4 (some .int), Cond.fieldLink RX0 15 "BondDesk$Bond" "factor" "I"]
def wsX0_rateOfCall_r2 : List Cond := [Cond.methodLink RX0 88 yX0_sunkOn, Cond.instanceMethod yX0_sunkOn, Cond.selects RX0 yX0_sunkOn yX0_sunkOn, Cond.code yX0_sunkOn cX0_sunkOn 4 (some .int), Cond.fieldLink RX0 70 "BondDesk$Bond" "sinkFrom" "I", Cond.fieldLink RX0 73 "BondDesk$Bond" "sinkPart" "I", Cond.methodLink RX0 76 Lib.Math.min.name, Cond.static Lib.Math.min.name, Cond.initialized "java/lang/Math", Cond.code Lib.Math.min.name Lib.Math.min.code 2 (some .int), Cond.methodLink RX0 134 yX0_callPayment, Cond.instanceMethod yX0_callPayment, Cond.selects RX0 yX0_callPayment yX0_callPayment, Cond.code yX0_callPayment cX0_callPayment 2 (some .long), Cond.constantLong RX0 52 (10000), Cond.methodLink RX0 54 yX0_faceOf, Cond.static yX0_faceOf, Cond.code yX0_faceOf cX0_faceOf 1 (some .long), Cond.constantLong RX0 50 (100000), Cond.methodLink RX0 114 yX0_greatestRate, Cond.instanceMethod yX0_greatestRate, Cond.selects RX0 yX0_greatestRate yX0_greatestRate, Cond.code yX0_greatestRate cX0_greatestRate 8 (some .int), Cond.methodLink RX0 107 yX0_worthAt]
def wsX0_rateOfCall_r3 : List Cond := [Cond.instanceMethod yX0_worthAt, Cond.selects RX0 yX0_worthAt yX0_worthAt, Cond.code yX0_worthAt cX0_worthAt 14 (some .long), Cond.fieldLink RX0 91 "BondDesk$Schedule" "perYear" "I", Cond.constantLong RX0 94 (3650000), Cond.constantLong RX0 99 (3650000000000000), Cond.constantLong RX0 105 (1000000000), Cond.methodLink RX0 19 yX3_firstBehind, Cond.instanceMethod yX3_firstBehind, Cond.selects RX3 yX3_firstBehind yX3_firstBehind, Cond.initialized RX3, Cond.code yX3_firstBehind cX3_firstBehind 3 (some .int), Cond.fieldLink RX3 41 "BondDesk$Schedule" "dates" "[I", Cond.methodLink RX0 96 yX1_daysBetween, Cond.static yX1_daysBetween, Cond.initialized RX1, Cond.code yX1_daysBetween cX1_daysBetween 2 (some .int), Cond.methodLink RX1 31 yX1_dayNumber, Cond.static yX1_dayNumber, Cond.code yX1_dayNumber cX1_dayNumber 5 (some .int), Cond.fieldLink RX1 27 "BondDesk$Dates" "AHEAD" "[I", Cond.methodLink RX0 101 yX0_paymentOn, Cond.instanceMethod yX0_paymentOn, Cond.selects RX0 yX0_paymentOn yX0_paymentOn]
def wsX0_rateOfCall_r4 : List Cond := [Cond.code yX0_paymentOn cX0_paymentOn 3 (some .long), Cond.methodLink RX0 82 yX3_couponFor, Cond.instanceMethod yX3_couponFor, Cond.selects RX3 yX3_couponFor yX3_couponFor, Cond.code yX3_couponFor cX3_couponFor 6 (some .long), Cond.fieldLink RX3 29 "BondDesk$Schedule" "regularBegin" "I", Cond.fieldLink RX3 7 "BondDesk$Schedule" "issue" "I", Cond.fieldLink RX3 57 "BondDesk$Schedule" "firstYear" "J", Cond.fieldLink RX3 16 "BondDesk$Schedule" "rate" "I", Cond.fieldLink RX3 49 "BondDesk$Schedule" "firstDays" "J", Cond.constantLong RX3 65 (10000), Cond.fieldLink RX3 19 "BondDesk$Schedule" "perYear" "I", Cond.methodLink RX0 85 yX0_isEnd, Cond.instanceMethod yX0_isEnd, Cond.selects RX0 yX0_isEnd yX0_isEnd, Cond.code yX0_isEnd cX0_isEnd 2 (some .boolean)]
def wsX0_rateOfCall : List Cond := .code yX0_rateOfCall cX0_rateOfCall 3 (some .int) :: ((wsX0_rateOfCall_r1 ++ (wsX0_rateOfCall_r2 ++ (wsX0_rateOfCall_r3 ++ wsX0_rateOfCall_r4))) ++ wsX00 ++ wsX30)
def wsX0_leave : List Cond := .code yX0_leave cX0_leave 2 none :: ([.fieldLink RX0 28 "BondDesk$Bond" "state" "I", .fieldLink RX0 147 "BondDesk$Bond" "pieces" "I"] ++ wsX00)
def wsX0_lookAt_r1 : List Cond := [Cond.fieldLink RX0 141 "BondDesk$Ledger" "coupons" "J", Cond.fieldLink RX0 147 "BondDesk$Bond" "pieces" "I", Cond.fieldLink RX0 9 "BondDesk$Bond" "schedule" "LBondDesk$Schedule;", Cond.fieldLink RX0 25 "BondDesk$Bond" "next" "I", Cond.fieldLink RX0 150 "BondDesk$Ledger" "ends" "J", Cond.fieldLink RX0 15 "BondDesk$Bond" "factor" "I", Cond.fieldLink RX0 157 "BondDesk$Ledger" "sinking" "J", Cond.fieldLink RX0 66 "BondDesk$Schedule" "dates" "[I", Cond.fieldLink RX0 160 "BondDesk$Ledger" "calls" "J", Cond.methodLink RX0 58 yX0_face, Cond.instanceMethod yX0_face, Cond.selects RX0 yX0_face yX0_face, Cond.initialized RX0, Cond.code yX0_face cX0_face 1 (some .long), Cond.methodLink RX0 54 yX0_faceOf, Cond.static yX0_faceOf, Cond.code yX0_faceOf cX0_faceOf 1 (some .long), Cond.constantLong RX0 50 (100000), Cond.constantLong RX0 52 (10000), Cond.methodLink RX0 82 yX3_couponFor, Cond.instanceMethod yX3_couponFor, Cond.selects RX3 yX3_couponFor yX3_couponFor, Cond.initialized RX3, Cond.code yX3_couponFor cX3_couponFor 6 (some .long)]
def wsX0_lookAt_r2 : List Cond := [Cond.fieldLink RX3 29 "BondDesk$Schedule" "regularBegin" "I", Cond.fieldLink RX3 7 "BondDesk$Schedule" "issue" "I", Cond.fieldLink RX3 57 "BondDesk$Schedule" "firstYear" "J", Cond.fieldLink RX3 16 "BondDesk$Schedule" "rate" "I", Cond.fieldLink RX3 49 "BondDesk$Schedule" "firstDays" "J", Cond.constantLong RX3 65 (10000), Cond.fieldLink RX3 19 "BondDesk$Schedule" "perYear" "I", Cond.methodLink RX0 85 yX0_isEnd, Cond.instanceMethod yX0_isEnd, Cond.selects RX0 yX0_isEnd yX0_isEnd, Cond.code yX0_isEnd cX0_isEnd 2 (some .boolean), Cond.methodLink RX0 153 yX0_leave, Cond.instanceMethod yX0_leave, Cond.selects RX0 yX0_leave yX0_leave, Cond.code yX0_leave cX0_leave 2 none, Cond.fieldLink RX0 28 "BondDesk$Bond" "state" "I", Cond.methodLink RX0 88 yX0_sunkOn, Cond.instanceMethod yX0_sunkOn, Cond.selects RX0 yX0_sunkOn yX0_sunkOn, Cond.code yX0_sunkOn cX0_sunkOn 4 (some .int), Cond.fieldLink RX0 70 "BondDesk$Bond" "sinkFrom" "I", Cond.fieldLink RX0 73 "BondDesk$Bond" "sinkPart" "I", Cond.methodLink RX0 76 Lib.Math.min.name, Cond.static Lib.Math.min.name]
def wsX0_lookAt_r3 : List Cond := [Cond.initialized "java/lang/Math", Cond.code Lib.Math.min.name Lib.Math.min.code 2 (some .int), Cond.methodLink RX0 124 yX0_isCallDate, Cond.instanceMethod yX0_isCallDate, Cond.selects RX0 yX0_isCallDate yX0_isCallDate, Cond.code yX0_isCallDate cX0_isCallDate 2 (some .boolean), Cond.fieldLink RX0 118 "BondDesk$Bond" "callPrice" "I", Cond.fieldLink RX0 121 "BondDesk$Bond" "callFrom" "I", Cond.methodLink RX0 107 yX0_worthAt, Cond.instanceMethod yX0_worthAt, Cond.selects RX0 yX0_worthAt yX0_worthAt, Cond.code yX0_worthAt cX0_worthAt 14 (some .long), Cond.fieldLink RX0 91 "BondDesk$Schedule" "perYear" "I", Cond.constantLong RX0 94 (3650000), Cond.constantLong RX0 99 (3650000000000000), Cond.constantLong RX0 105 (1000000000), Cond.methodLink RX0 19 yX3_firstBehind, Cond.instanceMethod yX3_firstBehind, Cond.selects RX3 yX3_firstBehind yX3_firstBehind, Cond.code yX3_firstBehind cX3_firstBehind 3 (some .int), Cond.fieldLink RX3 41 "BondDesk$Schedule" "dates" "[I", Cond.methodLink RX0 34 yX0_isGone, Cond.instanceMethod yX0_isGone, Cond.selects RX0 yX0_isGone yX0_isGone]
def wsX0_lookAt_r4 : List Cond := [Cond.code yX0_isGone cX0_isGone 1 (some .boolean), Cond.methodLink RX0 96 yX1_daysBetween, Cond.static yX1_daysBetween, Cond.initialized RX1, Cond.code yX1_daysBetween cX1_daysBetween 2 (some .int), Cond.methodLink RX1 31 yX1_dayNumber, Cond.static yX1_dayNumber, Cond.code yX1_dayNumber cX1_dayNumber 5 (some .int), Cond.fieldLink RX1 27 "BondDesk$Dates" "AHEAD" "[I", Cond.methodLink RX0 101 yX0_paymentOn, Cond.instanceMethod yX0_paymentOn, Cond.selects RX0 yX0_paymentOn yX0_paymentOn, Cond.code yX0_paymentOn cX0_paymentOn 3 (some .long), Cond.methodLink RX0 134 yX0_callPayment, Cond.instanceMethod yX0_callPayment, Cond.selects RX0 yX0_callPayment yX0_callPayment, Cond.code yX0_callPayment cX0_callPayment 2 (some .long)]
def wsX0_lookAt : List Cond := .code yX0_lookAt cX0_lookAt 5 none :: ((wsX0_lookAt_r1 ++ (wsX0_lookAt_r2 ++ (wsX0_lookAt_r3 ++ wsX0_lookAt_r4))) ++ wsX20 ++ wsX00 ++ wsX30)
def wsX0_lookUpTo_r1 : List Cond := [Cond.fieldLink RX0 25 "BondDesk$Bond" "next" "I", Cond.fieldLink RX0 9 "BondDesk$Bond" "schedule" "LBondDesk$Schedule;", Cond.fieldLink RX0 66 "BondDesk$Schedule" "dates" "[I", Cond.methodLink RX0 34 yX0_isGone, Cond.instanceMethod yX0_isGone, Cond.selects RX0 yX0_isGone yX0_isGone, Cond.initialized RX0, Cond.code yX0_isGone cX0_isGone 1 (some .boolean), Cond.fieldLink RX0 28 "BondDesk$Bond" "state" "I", Cond.methodLink RX0 137 yX0_lookAt, Cond.instanceMethod yX0_lookAt, Cond.selects RX0 yX0_lookAt yX0_lookAt, Cond.code yX0_lookAt cX0_lookAt 5 none, Cond.fieldLink RX0 141 "BondDesk$Ledger" "coupons" "J", Cond.fieldLink RX0 147 "BondDesk$Bond" "pieces" "I", Cond.fieldLink RX0 150 "BondDesk$Ledger" "ends" "J", Cond.fieldLink RX0 15 "BondDesk$Bond" "factor" "I", Cond.fieldLink RX0 157 "BondDesk$Ledger" "sinking" "J", Cond.fieldLink RX0 160 "BondDesk$Ledger" "calls" "J", Cond.methodLink RX0 58 yX0_face, Cond.instanceMethod yX0_face, Cond.selects RX0 yX0_face yX0_face, Cond.code yX0_face cX0_face 1 (some .long), Cond.methodLink RX0 54 yX0_faceOf]
def wsX0_lookUpTo_r2 : List Cond := [Cond.static yX0_faceOf, Cond.code yX0_faceOf cX0_faceOf 1 (some .long), Cond.constantLong RX0 50 (100000), Cond.constantLong RX0 52 (10000), Cond.methodLink RX0 82 yX3_couponFor, Cond.instanceMethod yX3_couponFor, Cond.selects RX3 yX3_couponFor yX3_couponFor, Cond.initialized RX3, Cond.code yX3_couponFor cX3_couponFor 6 (some .long), Cond.fieldLink RX3 29 "BondDesk$Schedule" "regularBegin" "I", Cond.fieldLink RX3 7 "BondDesk$Schedule" "issue" "I", Cond.fieldLink RX3 57 "BondDesk$Schedule" "firstYear" "J", Cond.fieldLink RX3 16 "BondDesk$Schedule" "rate" "I", Cond.fieldLink RX3 49 "BondDesk$Schedule" "firstDays" "J", Cond.constantLong RX3 65 (10000), Cond.fieldLink RX3 19 "BondDesk$Schedule" "perYear" "I", Cond.methodLink RX0 85 yX0_isEnd, Cond.instanceMethod yX0_isEnd, Cond.selects RX0 yX0_isEnd yX0_isEnd, Cond.code yX0_isEnd cX0_isEnd 2 (some .boolean), Cond.methodLink RX0 153 yX0_leave, Cond.instanceMethod yX0_leave, Cond.selects RX0 yX0_leave yX0_leave, Cond.code yX0_leave cX0_leave 2 none]
def wsX0_lookUpTo_r3 : List Cond := [Cond.methodLink RX0 88 yX0_sunkOn, Cond.instanceMethod yX0_sunkOn, Cond.selects RX0 yX0_sunkOn yX0_sunkOn, Cond.code yX0_sunkOn cX0_sunkOn 4 (some .int), Cond.fieldLink RX0 70 "BondDesk$Bond" "sinkFrom" "I", Cond.fieldLink RX0 73 "BondDesk$Bond" "sinkPart" "I", Cond.methodLink RX0 76 Lib.Math.min.name, Cond.static Lib.Math.min.name, Cond.initialized "java/lang/Math", Cond.code Lib.Math.min.name Lib.Math.min.code 2 (some .int), Cond.methodLink RX0 124 yX0_isCallDate, Cond.instanceMethod yX0_isCallDate, Cond.selects RX0 yX0_isCallDate yX0_isCallDate, Cond.code yX0_isCallDate cX0_isCallDate 2 (some .boolean), Cond.fieldLink RX0 118 "BondDesk$Bond" "callPrice" "I", Cond.fieldLink RX0 121 "BondDesk$Bond" "callFrom" "I", Cond.methodLink RX0 107 yX0_worthAt, Cond.instanceMethod yX0_worthAt, Cond.selects RX0 yX0_worthAt yX0_worthAt, Cond.code yX0_worthAt cX0_worthAt 14 (some .long), Cond.fieldLink RX0 91 "BondDesk$Schedule" "perYear" "I", Cond.constantLong RX0 94 (3650000), Cond.constantLong RX0 99 (3650000000000000), Cond.constantLong RX0 105 (1000000000)]
def wsX0_lookUpTo_r4 : List Cond := [Cond.methodLink RX0 19 yX3_firstBehind, Cond.instanceMethod yX3_firstBehind, Cond.selects RX3 yX3_firstBehind yX3_firstBehind, Cond.code yX3_firstBehind cX3_firstBehind 3 (some .int), Cond.fieldLink RX3 41 "BondDesk$Schedule" "dates" "[I", Cond.methodLink RX0 96 yX1_daysBetween, Cond.static yX1_daysBetween, Cond.initialized RX1, Cond.code yX1_daysBetween cX1_daysBetween 2 (some .int), Cond.methodLink RX1 31 yX1_dayNumber, Cond.static yX1_dayNumber, Cond.code yX1_dayNumber cX1_dayNumber 5 (some .int), Cond.fieldLink RX1 27 "BondDesk$Dates" "AHEAD" "[I", Cond.methodLink RX0 101 yX0_paymentOn, Cond.instanceMethod yX0_paymentOn, Cond.selects RX0 yX0_paymentOn yX0_paymentOn, Cond.code yX0_paymentOn cX0_paymentOn 3 (some .long), Cond.methodLink RX0 134 yX0_callPayment, Cond.instanceMethod yX0_callPayment, Cond.selects RX0 yX0_callPayment yX0_callPayment, Cond.code yX0_callPayment cX0_callPayment 2 (some .long)]
def wsX0_lookUpTo : List Cond := .code yX0_lookUpTo cX0_lookUpTo 5 none :: ((wsX0_lookUpTo_r1 ++ (wsX0_lookUpTo_r2 ++ (wsX0_lookUpTo_r3 ++ wsX0_lookUpTo_r4))) ++ wsX00 ++ wsX30 ++ wsX20)
def wsX0_paymentsIn_r1 : List Cond := [Cond.fieldLink RX0 15 "BondDesk$Bond" "factor" "I", Cond.fieldLink RX0 9 "BondDesk$Bond" "schedule" "LBondDesk$Schedule;", Cond.fieldLink RX0 66 "BondDesk$Schedule" "dates" "[I", Cond.methodLink RX0 19 yX3_firstBehind, Cond.instanceMethod yX3_firstBehind, Cond.selects RX3 yX3_firstBehind yX3_firstBehind, Cond.initialized RX3, Cond.code yX3_firstBehind cX3_firstBehind 3 (some .int), Cond.fieldLink RX3 41 "BondDesk$Schedule" "dates" "[I", Cond.methodLink RX0 45 yX1_yearOf, Cond.static yX1_yearOf, Cond.initialized RX1, Cond.code yX1_yearOf cX1_yearOf 1 (some .int), Cond.methodLink RX0 101 yX0_paymentOn, Cond.instanceMethod yX0_paymentOn, Cond.selects RX0 yX0_paymentOn yX0_paymentOn, Cond.initialized RX0, Cond.code yX0_paymentOn cX0_paymentOn 3 (some .long), Cond.methodLink RX0 54 yX0_faceOf, Cond.static yX0_faceOf, Cond.code yX0_faceOf cX0_faceOf 1 (some .long), Cond.constantLong RX0 50 (100000), Cond.constantLong RX0 52 (10000), Cond.methodLink RX0 82 yX3_couponFor]
def wsX0_paymentsIn_r2 : List Cond := [Cond.instanceMethod yX3_couponFor, Cond.selects RX3 yX3_couponFor yX3_couponFor, Cond.code yX3_couponFor cX3_couponFor 6 (some .long), Cond.fieldLink RX3 29 "BondDesk$Schedule" "regularBegin" "I", Cond.fieldLink RX3 7 "BondDesk$Schedule" "issue" "I", Cond.fieldLink RX3 57 "BondDesk$Schedule" "firstYear" "J", Cond.fieldLink RX3 16 "BondDesk$Schedule" "rate" "I", Cond.fieldLink RX3 49 "BondDesk$Schedule" "firstDays" "J", Cond.constantLong RX3 65 (10000), Cond.fieldLink RX3 19 "BondDesk$Schedule" "perYear" "I", Cond.methodLink RX0 85 yX0_isEnd, Cond.instanceMethod yX0_isEnd, Cond.selects RX0 yX0_isEnd yX0_isEnd, Cond.code yX0_isEnd cX0_isEnd 2 (some .boolean), Cond.methodLink RX0 88 yX0_sunkOn, Cond.instanceMethod yX0_sunkOn, Cond.selects RX0 yX0_sunkOn yX0_sunkOn, Cond.code yX0_sunkOn cX0_sunkOn 4 (some .int), Cond.fieldLink RX0 70 "BondDesk$Bond" "sinkFrom" "I", Cond.fieldLink RX0 73 "BondDesk$Bond" "sinkPart" "I", Cond.methodLink RX0 76 Lib.Math.min.name, Cond.static Lib.Math.min.name, Cond.initialized "java/lang/Math", Cond.code Lib.Math.min.name Lib.Math.min.code 2 (some .int)]
def wsX0_paymentsIn : List Cond := .code yX0_paymentsIn cX0_paymentsIn 7 (some .long) :: ((wsX0_paymentsIn_r1 ++ wsX0_paymentsIn_r2) ++ wsX00 ++ wsX30)
def wsX0_tell_r1 : List Cond := [Cond.fieldLink RX0 9 "BondDesk$Bond" "schedule" "LBondDesk$Schedule;", Cond.fieldLink RX0 31 "BondDesk$Schedule" "issue" "I", Cond.fieldLink RX0 42 "BondDesk$Schedule" "end" "I", Cond.fieldLink RX0 163 "BondDesk$Schedule" "rate" "I", Cond.fieldLink RX0 91 "BondDesk$Schedule" "perYear" "I", Cond.fieldLink RX0 166 "BondDesk$Schedule" "way" "I", Cond.fieldLink RX0 15 "BondDesk$Bond" "factor" "I", Cond.fieldLink RX0 66 "BondDesk$Schedule" "dates" "[I", Cond.fieldLink RX0 25 "BondDesk$Bond" "next" "I", Cond.fieldLink RX0 28 "BondDesk$Bond" "state" "I", Cond.fieldLink RX0 147 "BondDesk$Bond" "pieces" "I", Cond.methodLink RX0 58 yX0_face, Cond.instanceMethod yX0_face, Cond.selects RX0 yX0_face yX0_face, Cond.initialized RX0, Cond.code yX0_face cX0_face 1 (some .long), Cond.methodLink RX0 54 yX0_faceOf, Cond.static yX0_faceOf, Cond.code yX0_faceOf cX0_faceOf 1 (some .long), Cond.constantLong RX0 50 (100000), Cond.constantLong RX0 52 (10000), Cond.methodLink RX0 34 yX0_isGone, Cond.instanceMethod yX0_isGone, Cond.selects RX0 yX0_isGone yX0_isGone]
def wsX0_tell_r2 : List Cond := [Cond.code yX0_isGone cX0_isGone 1 (some .boolean)]
def wsX0_tell : List Cond := .code yX0_tell cX0_tell 2 (some .int) :: ((wsX0_tell_r1 ++ wsX0_tell_r2) ++ wsX00 ++ wsX30)
def wsX0_addTo_r1 : List Cond := [Cond.constantLong RX0 169 (31), Cond.fieldLink RX0 9 "BondDesk$Bond" "schedule" "LBondDesk$Schedule;", Cond.fieldLink RX0 66 "BondDesk$Schedule" "dates" "[I", Cond.constantLong RX0 50 (100000), Cond.methodLink RX0 171 yX0_tell, Cond.instanceMethod yX0_tell, Cond.selects RX0 yX0_tell yX0_tell, Cond.initialized RX0, Cond.code yX0_tell cX0_tell 2 (some .int), Cond.fieldLink RX0 31 "BondDesk$Schedule" "issue" "I", Cond.fieldLink RX0 42 "BondDesk$Schedule" "end" "I", Cond.fieldLink RX0 163 "BondDesk$Schedule" "rate" "I", Cond.fieldLink RX0 91 "BondDesk$Schedule" "perYear" "I", Cond.fieldLink RX0 166 "BondDesk$Schedule" "way" "I", Cond.fieldLink RX0 15 "BondDesk$Bond" "factor" "I", Cond.fieldLink RX0 25 "BondDesk$Bond" "next" "I", Cond.fieldLink RX0 28 "BondDesk$Bond" "state" "I", Cond.fieldLink RX0 147 "BondDesk$Bond" "pieces" "I", Cond.methodLink RX0 58 yX0_face, Cond.instanceMethod yX0_face, Cond.selects RX0 yX0_face yX0_face, Cond.code yX0_face cX0_face 1 (some .long), Cond.methodLink RX0 54 yX0_faceOf, Cond.static yX0_faceOf]
def wsX0_addTo_r2 : List Cond := [Cond.code yX0_faceOf cX0_faceOf 1 (some .long), Cond.constantLong RX0 52 (10000), Cond.methodLink RX0 34 yX0_isGone, Cond.instanceMethod yX0_isGone, Cond.selects RX0 yX0_isGone yX0_isGone, Cond.code yX0_isGone cX0_isGone 1 (some .boolean), Cond.methodLink RX0 174 yX0_accruedOn, Cond.instanceMethod yX0_accruedOn, Cond.selects RX0 yX0_accruedOn yX0_accruedOn, Cond.code yX0_accruedOn cX0_accruedOn 2 (some .long), Cond.methodLink RX0 62 yX3_accruedFor, Cond.instanceMethod yX3_accruedFor, Cond.selects RX3 yX3_accruedFor yX3_accruedFor, Cond.initialized RX3, Cond.code yX3_accruedFor cX3_accruedFor 7 (some .long), Cond.fieldLink RX3 7 "BondDesk$Schedule" "issue" "I", Cond.fieldLink RX3 41 "BondDesk$Schedule" "dates" "[I", Cond.fieldLink RX3 16 "BondDesk$Schedule" "rate" "I", Cond.methodLink RX3 67 yX3_firstBehind, Cond.instanceMethod yX3_firstBehind, Cond.selects RX3 yX3_firstBehind yX3_firstBehind, Cond.code yX3_firstBehind cX3_firstBehind 3 (some .int), Cond.methodLink RX3 53 yX3_yearOfPeriod, Cond.instanceMethod yX3_yearOfPeriod]
def wsX0_addTo_r3 : List Cond := [Cond.selects RX3 yX3_yearOfPeriod yX3_yearOfPeriod, Cond.code yX3_yearOfPeriod cX3_yearOfPeriod 3 (some .long), Cond.fieldLink RX3 22 "BondDesk$Schedule" "way" "I", Cond.constantLong RX3 80 (3650000), Cond.constantLong RX3 82 (3600000), Cond.fieldLink RX3 29 "BondDesk$Schedule" "regularBegin" "I", Cond.constantLong RX3 65 (10000), Cond.fieldLink RX3 19 "BondDesk$Schedule" "perYear" "I", Cond.methodLink RX3 77 yX1_daysBetween, Cond.static yX1_daysBetween, Cond.initialized RX1, Cond.code yX1_daysBetween cX1_daysBetween 2 (some .int), Cond.methodLink RX1 31 yX1_dayNumber, Cond.static yX1_dayNumber, Cond.code yX1_dayNumber cX1_dayNumber 5 (some .int), Cond.fieldLink RX1 27 "BondDesk$Dates" "AHEAD" "[I", Cond.methodLink RX3 71 yX3_beginOf, Cond.instanceMethod yX3_beginOf, Cond.selects RX3 yX3_beginOf yX3_beginOf, Cond.code yX3_beginOf cX3_beginOf 2 (some .int), Cond.methodLink RX3 45 yX3_daysCounted, Cond.instanceMethod yX3_daysCounted, Cond.selects RX3 yX3_daysCounted yX3_daysCounted, Cond.code yX3_daysCounted cX3_daysCounted 3 (some .long)]
def wsX0_addTo_r4 : List Cond := [Cond.methodLink RX3 74 yX1_daysOf30, Cond.static yX1_daysOf30, Cond.code yX1_daysOf30 cX1_daysOf30 4 (some .int), Cond.methodLink RX1 34 Lib.Math.min.name, Cond.static Lib.Math.min.name, Cond.initialized "java/lang/Math", Cond.code Lib.Math.min.name Lib.Math.min.code 2 (some .int), Cond.methodLink RX1 17 yX1_dayOf, Cond.static yX1_dayOf, Cond.code yX1_dayOf cX1_dayOf 1 (some .int), Cond.methodLink RX1 20 yX1_yearOf, Cond.static yX1_yearOf, Cond.code yX1_yearOf cX1_yearOf 1 (some .int), Cond.methodLink RX1 13 yX1_monthOf, Cond.static yX1_monthOf, Cond.code yX1_monthOf cX1_monthOf 1 (some .int), Cond.methodLink RX0 82 yX3_couponFor, Cond.instanceMethod yX3_couponFor, Cond.selects RX3 yX3_couponFor yX3_couponFor, Cond.code yX3_couponFor cX3_couponFor 6 (some .long), Cond.fieldLink RX3 57 "BondDesk$Schedule" "firstYear" "J", Cond.fieldLink RX3 49 "BondDesk$Schedule" "firstDays" "J"]
def wsX0_addTo : List Cond := .code yX0_addTo cX0_addTo 7 (some .long) :: ((wsX0_addTo_r1 ++ (wsX0_addTo_r2 ++ (wsX0_addTo_r3 ++ wsX0_addTo_r4))) ++ wsX00 ++ wsX30)
def wsX1_monthLength : List Cond := .code yX1_monthLength cX1_monthLength 2 (some .int) :: ([])
def wsX1_isDate : List Cond := .code yX1_isDate cX1_isDate 3 (some .boolean) :: ([.constant RX1 11 (20160101), .constant RX1 12 (20661231), .methodLink RX1 13 yX1_monthOf, .static yX1_monthOf, .initialized RX1, .code yX1_monthOf cX1_monthOf 1 (some .int), .methodLink RX1 17 yX1_dayOf, .static yX1_dayOf, .code yX1_dayOf cX1_dayOf 1 (some .int), .methodLink RX1 20 yX1_yearOf, .static yX1_yearOf, .code yX1_yearOf cX1_yearOf 1 (some .int), .methodLink RX1 23 yX1_monthLength, .static yX1_monthLength, .code yX1_monthLength cX1_monthLength 2 (some .int)])
def wsX1_dateOf : List Cond := .code yX1_dateOf cX1_dateOf 5 (some .int) :: ([.methodLink RX1 23 yX1_monthLength, .static yX1_monthLength, .initialized RX1, .code yX1_monthLength cX1_monthLength 2 (some .int)])
def wsX1_dayOfWeek : List Cond := .code yX1_dayOfWeek cX1_dayOfWeek 1 (some .int) :: ([])
def wsX1_monthsBack : List Cond := .code yX1_monthsBack cX1_monthsBack 8 (some .int) :: ([.methodLink RX1 34 Lib.Math.min.name, .static Lib.Math.min.name, .initialized "java/lang/Math", .code Lib.Math.min.name Lib.Math.min.code 2 (some .int), .methodLink RX1 20 yX1_yearOf, .static yX1_yearOf, .initialized RX1, .code yX1_yearOf cX1_yearOf 1 (some .int), .methodLink RX1 13 yX1_monthOf, .static yX1_monthOf, .code yX1_monthOf cX1_monthOf 1 (some .int), .methodLink RX1 23 yX1_monthLength, .static yX1_monthLength, .code yX1_monthLength cX1_monthLength 2 (some .int), .methodLink RX1 17 yX1_dayOf, .static yX1_dayOf, .code yX1_dayOf cX1_dayOf 1 (some .int)])
def wsX2_init : List Cond := .code yX2_init cX2_init 1 none :: ([.methodLink RX2 1 objectInit, .instanceMethod objectInit, .code objectInit ⟨#[0xb1]⟩ 1 none])
def wsX2_all : List Cond := .code yX2_all cX2_all 1 (some .long) :: ([.fieldLink RX2 7 "BondDesk$Ledger" "coupons" "J", .fieldLink RX2 13 "BondDesk$Ledger" "sinking" "J", .fieldLink RX2 16 "BondDesk$Ledger" "calls" "J", .fieldLink RX2 19 "BondDesk$Ledger" "ends" "J"] ++ wsX20)
def wsX3_dateBack : List Cond := .code yX3_dateBack cX3_dateBack 3 (some .int) :: ([.methodLink RX3 60 yX1_monthsBack, .static yX1_monthsBack, .initialized RX1, .code yX1_monthsBack cX1_monthsBack 8 (some .int), .methodLink RX1 34 Lib.Math.min.name, .static Lib.Math.min.name, .initialized "java/lang/Math", .code Lib.Math.min.name Lib.Math.min.code 2 (some .int), .methodLink RX1 20 yX1_yearOf, .static yX1_yearOf, .code yX1_yearOf cX1_yearOf 1 (some .int), .methodLink RX1 13 yX1_monthOf, .static yX1_monthOf, .code yX1_monthOf cX1_monthOf 1 (some .int), .methodLink RX1 23 yX1_monthLength, .static yX1_monthLength, .code yX1_monthLength cX1_monthLength 2 (some .int), .methodLink RX1 17 yX1_dayOf, .static yX1_dayOf, .code yX1_dayOf cX1_dayOf 1 (some .int)])
def wsX3_init_r1 : List Cond := [Cond.methodLink RX3 1 objectInit, Cond.instanceMethod objectInit, Cond.code objectInit ⟨#[0xb1]⟩ 1 none, Cond.fieldLink RX3 7 "BondDesk$Schedule" "issue" "I", Cond.fieldLink RX3 13 "BondDesk$Schedule" "end" "I", Cond.fieldLink RX3 16 "BondDesk$Schedule" "rate" "I", Cond.fieldLink RX3 19 "BondDesk$Schedule" "perYear" "I", Cond.fieldLink RX3 22 "BondDesk$Schedule" "way" "I", Cond.fieldLink RX3 29 "BondDesk$Schedule" "regularBegin" "I", Cond.methodLink RX3 32 Lib.Math.min.name, Cond.static Lib.Math.min.name, Cond.initialized "java/lang/Math", Cond.code Lib.Math.min.name Lib.Math.min.code 2 (some .int), Cond.methodLink RX3 38 Lib.Math.max.name, Cond.static Lib.Math.max.name, Cond.code Lib.Math.max.name Lib.Math.max.code 2 (some .int), Cond.arrayClass .int, Cond.fieldLink RX3 41 "BondDesk$Schedule" "dates" "[I", Cond.fieldLink RX3 49 "BondDesk$Schedule" "firstDays" "J", Cond.fieldLink RX3 57 "BondDesk$Schedule" "firstYear" "J", Cond.methodLink RX3 25 yX3_dateBack, Cond.static yX3_dateBack, Cond.initialized RX3, Cond.code yX3_dateBack cX3_dateBack 3 (some .int)]
def wsX3_init_r2 : List Cond := [Cond.methodLink RX3 60 yX1_monthsBack, Cond.static yX1_monthsBack, Cond.initialized RX1, Cond.code yX1_monthsBack cX1_monthsBack 8 (some .int), Cond.methodLink RX1 34 Lib.Math.min.name, Cond.methodLink RX1 20 yX1_yearOf, Cond.static yX1_yearOf, Cond.code yX1_yearOf cX1_yearOf 1 (some .int), Cond.methodLink RX1 13 yX1_monthOf, Cond.static yX1_monthOf, Cond.code yX1_monthOf cX1_monthOf 1 (some .int), Cond.methodLink RX1 23 yX1_monthLength, Cond.static yX1_monthLength, Cond.code yX1_monthLength cX1_monthLength 2 (some .int), Cond.methodLink RX1 17 yX1_dayOf, Cond.static yX1_dayOf, Cond.code yX1_dayOf cX1_dayOf 1 (some .int), Cond.methodLink RX3 45 yX3_daysCounted, Cond.instanceMethod yX3_daysCounted, Cond.selects RX3 yX3_daysCounted yX3_daysCounted, Cond.code yX3_daysCounted cX3_daysCounted 3 (some .long), Cond.methodLink RX3 74 yX1_daysOf30, Cond.static yX1_daysOf30, Cond.code yX1_daysOf30 cX1_daysOf30 4 (some .int)]
def wsX3_init_r3 : List Cond := [Cond.methodLink RX3 77 yX1_daysBetween, Cond.static yX1_daysBetween, Cond.code yX1_daysBetween cX1_daysBetween 2 (some .int), Cond.methodLink RX1 31 yX1_dayNumber, Cond.static yX1_dayNumber, Cond.code yX1_dayNumber cX1_dayNumber 5 (some .int), Cond.fieldLink RX1 27 "BondDesk$Dates" "AHEAD" "[I", Cond.methodLink RX3 53 yX3_yearOfPeriod, Cond.instanceMethod yX3_yearOfPeriod, Cond.selects RX3 yX3_yearOfPeriod yX3_yearOfPeriod, Cond.code yX3_yearOfPeriod cX3_yearOfPeriod 3 (some .long), Cond.constantLong RX3 80 (3650000), Cond.constantLong RX3 82 (3600000), Cond.constantLong RX3 65 (10000)]
def wsX3_init : List Cond := .code yX3_init cX3_init 8 none :: ((wsX3_init_r1 ++ (wsX3_init_r2 ++ wsX3_init_r3)) ++ wsX30)
def wsX3_countCoupons : List Cond := .code yX3_countCoupons cX3_countCoupons 4 (some .int) :: ([.methodLink RX3 25 yX3_dateBack, .static yX3_dateBack, .initialized RX3, .code yX3_dateBack cX3_dateBack 3 (some .int), .methodLink RX3 60 yX1_monthsBack, .static yX1_monthsBack, .initialized RX1, .code yX1_monthsBack cX1_monthsBack 8 (some .int), .methodLink RX1 34 Lib.Math.min.name, .static Lib.Math.min.name, .initialized "java/lang/Math", .code Lib.Math.min.name Lib.Math.min.code 2 (some .int), .methodLink RX1 20 yX1_yearOf, .static yX1_yearOf, .code yX1_yearOf cX1_yearOf 1 (some .int), .methodLink RX1 13 yX1_monthOf, .static yX1_monthOf, .code yX1_monthOf cX1_monthOf 1 (some .int), .methodLink RX1 23 yX1_monthLength, .static yX1_monthLength, .code yX1_monthLength cX1_monthLength 2 (some .int), .methodLink RX1 17 yX1_dayOf, .static yX1_dayOf, .code yX1_dayOf cX1_dayOf 1 (some .int)])
def wsX4_init : List Cond := .code yX4_init cX4_init 1 none :: ([.methodLink RX4 1 objectInit, .instanceMethod objectInit, .code objectInit ⟨#[0xb1]⟩ 1 none, .arrayClass .int, .fieldLink RX4 9 "BondDesk" "holidays" "[I", .classLink RX4 13 RX0, .fieldLink RX4 15 "BondDesk" "bonds" "[LBondDesk$Bond;", .classLink RX4 19 RX2, .instantiable RX2 4, .initialized RX2, .fieldLink RX4 22 "BondDesk" "paid" "LBondDesk$Ledger;", .constant RX4 26 (20260101), .fieldLink RX4 27 "BondDesk" "today" "I", .constantLong RX4 31 (200000000), .fieldLink RX4 33 "BondDesk" "cash" "J", .fieldLink RX4 37 "BondDesk" "refinancing" "I", .instanceMethod yX2_init, .code yX2_init cX2_init 1 none, .methodLink RX2 1 objectInit] ++ wsX40 ++ wsX20)
def wsX4_requireDate : List Cond := .code yX4_requireDate cX4_requireDate 1 none :: ([.classLink RX4 44 "java/lang/IllegalArgumentException", .initialized "java/lang/IllegalArgumentException", .methodLink RX4 84 yX1_isDate, .static yX1_isDate, .initialized RX1, .code yX1_isDate cX1_isDate 3 (some .boolean), .constant RX1 11 (20160101), .constant RX1 12 (20661231), .methodLink RX1 13 yX1_monthOf, .static yX1_monthOf, .code yX1_monthOf cX1_monthOf 1 (some .int), .methodLink RX1 17 yX1_dayOf, .static yX1_dayOf, .code yX1_dayOf cX1_dayOf 1 (some .int), .methodLink RX1 20 yX1_yearOf, .static yX1_yearOf, .code yX1_yearOf cX1_yearOf 1 (some .int), .methodLink RX1 23 yX1_monthLength, .static yX1_monthLength, .code yX1_monthLength cX1_monthLength 2 (some .int)] ++ (vx_atS RX4 48 "java/lang/IllegalArgumentException" ["java/lang/RuntimeException", "java/lang/Exception"]).filter goodWord)
def wsX4_later_r1 : List Cond := [Cond.classLink RX4 44 "java/lang/IllegalArgumentException", Cond.initialized "java/lang/IllegalArgumentException", Cond.constant RX4 57 (20661231), Cond.methodLink RX4 40 yX4_requireDate, Cond.static yX4_requireDate, Cond.initialized RX4, Cond.code yX4_requireDate cX4_requireDate 1 none, Cond.methodLink RX4 84 yX1_isDate, Cond.static yX1_isDate, Cond.initialized RX1, Cond.code yX1_isDate cX1_isDate 3 (some .boolean), Cond.constant RX1 11 (20160101), Cond.constant RX1 12 (20661231), Cond.methodLink RX1 13 yX1_monthOf, Cond.static yX1_monthOf, Cond.code yX1_monthOf cX1_monthOf 1 (some .int), Cond.methodLink RX1 17 yX1_dayOf, Cond.static yX1_dayOf, Cond.code yX1_dayOf cX1_dayOf 1 (some .int), Cond.methodLink RX1 20 yX1_yearOf, Cond.static yX1_yearOf, Cond.code yX1_yearOf cX1_yearOf 1 (some .int), Cond.methodLink RX1 23 yX1_monthLength, Cond.static yX1_monthLength]
def wsX4_later_r2 : List Cond := [Cond.code yX1_monthLength cX1_monthLength 2 (some .int), Cond.methodLink RX4 51 yX1_dayNumber, Cond.static yX1_dayNumber, Cond.code yX1_dayNumber cX1_dayNumber 5 (some .int), Cond.fieldLink RX1 27 "BondDesk$Dates" "AHEAD" "[I", Cond.methodLink RX4 60 yX1_dateOf, Cond.static yX1_dateOf, Cond.code yX1_dateOf cX1_dateOf 5 (some .int)]
def wsX4_later : List Cond := .code yX4_later cX4_later 4 (some .int) :: ((wsX4_later_r1 ++ wsX4_later_r2) ++ (vx_atS RX4 48 "java/lang/IllegalArgumentException" ["java/lang/RuntimeException", "java/lang/Exception"]).filter goodWord)
def wsX4_weekday_r1 : List Cond := [Cond.methodLink RX4 40 yX4_requireDate, Cond.static yX4_requireDate, Cond.initialized RX4, Cond.code yX4_requireDate cX4_requireDate 1 none, Cond.classLink RX4 44 "java/lang/IllegalArgumentException", Cond.initialized "java/lang/IllegalArgumentException", Cond.methodLink RX4 84 yX1_isDate, Cond.static yX1_isDate, Cond.initialized RX1, Cond.code yX1_isDate cX1_isDate 3 (some .boolean), Cond.constant RX1 11 (20160101), Cond.constant RX1 12 (20661231), Cond.methodLink RX1 13 yX1_monthOf, Cond.static yX1_monthOf, Cond.code yX1_monthOf cX1_monthOf 1 (some .int), Cond.methodLink RX1 17 yX1_dayOf, Cond.static yX1_dayOf, Cond.code yX1_dayOf cX1_dayOf 1 (some .int), Cond.methodLink RX1 20 yX1_yearOf, Cond.static yX1_yearOf, Cond.code yX1_yearOf cX1_yearOf 1 (some .int), Cond.methodLink RX1 23 yX1_monthLength, Cond.static yX1_monthLength, Cond.code yX1_monthLength cX1_monthLength 2 (some .int)]
def wsX4_weekday_r2 : List Cond := [Cond.methodLink RX4 51 yX1_dayNumber, Cond.static yX1_dayNumber, Cond.code yX1_dayNumber cX1_dayNumber 5 (some .int), Cond.fieldLink RX1 27 "BondDesk$Dates" "AHEAD" "[I", Cond.methodLink RX4 63 yX1_dayOfWeek, Cond.static yX1_dayOfWeek, Cond.code yX1_dayOfWeek cX1_dayOfWeek 1 (some .int)]
def wsX4_weekday : List Cond := .code yX4_weekday cX4_weekday 2 (some .int) :: ((wsX4_weekday_r1 ++ wsX4_weekday_r2) ++ (vx_atS RX4 48 "java/lang/IllegalArgumentException" ["java/lang/RuntimeException", "java/lang/Exception"]).filter goodWord)
def wsX4_isHoliday : List Cond := .code yX4_isHoliday cX4_isHoliday 6 (some .boolean) :: ([.fieldLink RX4 9 "BondDesk" "holidays" "[I"] ++ wsX40)
def wsX4_addHoliday_r1 : List Cond := [Cond.classLink RX4 73 "java/lang/IllegalStateException", Cond.initialized "java/lang/IllegalStateException", Cond.fieldLink RX4 70 "BondDesk" "holidayCount" "I", Cond.fieldLink RX4 9 "BondDesk" "holidays" "[I", Cond.methodLink RX4 40 yX4_requireDate, Cond.static yX4_requireDate, Cond.initialized RX4, Cond.code yX4_requireDate cX4_requireDate 1 none, Cond.classLink RX4 44 "java/lang/IllegalArgumentException", Cond.initialized "java/lang/IllegalArgumentException", Cond.methodLink RX4 84 yX1_isDate, Cond.static yX1_isDate, Cond.initialized RX1, Cond.code yX1_isDate cX1_isDate 3 (some .boolean), Cond.constant RX1 11 (20160101), Cond.constant RX1 12 (20661231), Cond.methodLink RX1 13 yX1_monthOf, Cond.static yX1_monthOf, Cond.code yX1_monthOf cX1_monthOf 1 (some .int), Cond.methodLink RX1 17 yX1_dayOf, Cond.static yX1_dayOf, Cond.code yX1_dayOf cX1_dayOf 1 (some .int), Cond.methodLink RX1 20 yX1_yearOf, Cond.static yX1_yearOf]
def wsX4_addHoliday_r2 : List Cond := [Cond.code yX1_yearOf cX1_yearOf 1 (some .int), Cond.methodLink RX1 23 yX1_monthLength, Cond.static yX1_monthLength, Cond.code yX1_monthLength cX1_monthLength 2 (some .int), Cond.methodLink RX4 66 yX4_isHoliday, Cond.instanceMethod yX4_isHoliday, Cond.selects RX4 yX4_isHoliday yX4_isHoliday, Cond.code yX4_isHoliday cX4_isHoliday 6 (some .boolean)]
def wsX4_addHoliday : List Cond := .code yX4_addHoliday cX4_addHoliday 2 (some .int) :: ((wsX4_addHoliday_r1 ++ wsX4_addHoliday_r2) ++ wsX40 ++ (vx_atS RX4 77 "java/lang/IllegalStateException" ["java/lang/RuntimeException", "java/lang/Exception"]).filter goodWord ++ (vx_atS RX4 48 "java/lang/IllegalArgumentException" ["java/lang/RuntimeException", "java/lang/Exception"]).filter goodWord)
def wsX4_isWorkingDay : List Cond := .code yX4_isWorkingDay cX4_isWorkingDay 2 (some .boolean) :: ([.methodLink RX4 63 yX1_dayOfWeek, .static yX1_dayOfWeek, .initialized RX1, .code yX1_dayOfWeek cX1_dayOfWeek 1 (some .int), .methodLink RX4 60 yX1_dateOf, .static yX1_dateOf, .code yX1_dateOf cX1_dateOf 5 (some .int), .methodLink RX1 23 yX1_monthLength, .static yX1_monthLength, .code yX1_monthLength cX1_monthLength 2 (some .int), .methodLink RX4 66 yX4_isHoliday, .instanceMethod yX4_isHoliday, .selects RX4 yX4_isHoliday yX4_isHoliday, .initialized RX4, .code yX4_isHoliday cX4_isHoliday 6 (some .boolean), .fieldLink RX4 9 "BondDesk" "holidays" "[I"] ++ wsX40)
def wsX4_nextWorkingDate : List Cond := .code yX4_nextWorkingDate cX4_nextWorkingDate 4 (some .int) :: ([.methodLink RX4 51 yX1_dayNumber, .static yX1_dayNumber, .initialized RX1, .code yX1_dayNumber cX1_dayNumber 5 (some .int), .fieldLink RX1 27 "BondDesk$Dates" "AHEAD" "[I", .methodLink RX4 89 yX4_isWorkingDay, .instanceMethod yX4_isWorkingDay, .selects RX4 yX4_isWorkingDay yX4_isWorkingDay, .initialized RX4, .code yX4_isWorkingDay cX4_isWorkingDay 2 (some .boolean), .methodLink RX4 63 yX1_dayOfWeek, .static yX1_dayOfWeek, .code yX1_dayOfWeek cX1_dayOfWeek 1 (some .int), .methodLink RX4 60 yX1_dateOf, .static yX1_dateOf, .code yX1_dateOf cX1_dateOf 5 (some .int), .methodLink RX1 23 yX1_monthLength, .static yX1_monthLength, .code yX1_monthLength cX1_monthLength 2 (some .int), .methodLink RX4 66 yX4_isHoliday, .instanceMethod yX4_isHoliday, .selects RX4 yX4_isHoliday yX4_isHoliday, .code yX4_isHoliday cX4_isHoliday 6 (some .boolean), .fieldLink RX4 9 "BondDesk" "holidays" "[I"] ++ wsX40)
def wsX4_working_r1 : List Cond := [Cond.classLink RX4 44 "java/lang/IllegalArgumentException", Cond.initialized "java/lang/IllegalArgumentException", Cond.constant RX4 78 (20661101), Cond.methodLink RX4 40 yX4_requireDate, Cond.static yX4_requireDate, Cond.initialized RX4, Cond.code yX4_requireDate cX4_requireDate 1 none, Cond.methodLink RX4 84 yX1_isDate, Cond.static yX1_isDate, Cond.initialized RX1, Cond.code yX1_isDate cX1_isDate 3 (some .boolean), Cond.constant RX1 11 (20160101), Cond.constant RX1 12 (20661231), Cond.methodLink RX1 13 yX1_monthOf, Cond.static yX1_monthOf, Cond.code yX1_monthOf cX1_monthOf 1 (some .int), Cond.methodLink RX1 17 yX1_dayOf, Cond.static yX1_dayOf, Cond.code yX1_dayOf cX1_dayOf 1 (some .int), Cond.methodLink RX1 20 yX1_yearOf, Cond.static yX1_yearOf, Cond.code yX1_yearOf cX1_yearOf 1 (some .int), Cond.methodLink RX1 23 yX1_monthLength, Cond.static yX1_monthLength]
def wsX4_working_r2 : List Cond := [Cond.code yX1_monthLength cX1_monthLength 2 (some .int), Cond.methodLink RX4 81 yX4_nextWorkingDate, Cond.instanceMethod yX4_nextWorkingDate, Cond.selects RX4 yX4_nextWorkingDate yX4_nextWorkingDate, Cond.code yX4_nextWorkingDate cX4_nextWorkingDate 4 (some .int), Cond.methodLink RX4 51 yX1_dayNumber, Cond.static yX1_dayNumber, Cond.code yX1_dayNumber cX1_dayNumber 5 (some .int), Cond.fieldLink RX1 27 "BondDesk$Dates" "AHEAD" "[I", Cond.methodLink RX4 89 yX4_isWorkingDay, Cond.instanceMethod yX4_isWorkingDay, Cond.selects RX4 yX4_isWorkingDay yX4_isWorkingDay, Cond.code yX4_isWorkingDay cX4_isWorkingDay 2 (some .boolean), Cond.methodLink RX4 63 yX1_dayOfWeek, Cond.static yX1_dayOfWeek, Cond.code yX1_dayOfWeek cX1_dayOfWeek 1 (some .int), Cond.methodLink RX4 60 yX1_dateOf, Cond.static yX1_dateOf, Cond.code yX1_dateOf cX1_dateOf 5 (some .int), Cond.methodLink RX4 66 yX4_isHoliday, Cond.instanceMethod yX4_isHoliday, Cond.selects RX4 yX4_isHoliday yX4_isHoliday, Cond.code yX4_isHoliday cX4_isHoliday 6 (some .boolean), Cond.fieldLink RX4 9 "BondDesk" "holidays" "[I"]
def wsX4_working : List Cond := .code yX4_working cX4_working 2 (some .int) :: ((wsX4_working_r1 ++ wsX4_working_r2) ++ wsX40 ++ (vx_atS RX4 48 "java/lang/IllegalArgumentException" ["java/lang/RuntimeException", "java/lang/Exception"]).filter goodWord)
def wsX4_requireLife_r1 : List Cond := [Cond.classLink RX4 44 "java/lang/IllegalArgumentException", Cond.initialized "java/lang/IllegalArgumentException", Cond.constant RX4 78 (20661101), Cond.fieldLink RX4 27 "BondDesk" "today" "I", Cond.methodLink RX4 40 yX4_requireDate, Cond.static yX4_requireDate, Cond.initialized RX4, Cond.code yX4_requireDate cX4_requireDate 1 none, Cond.methodLink RX4 84 yX1_isDate, Cond.static yX1_isDate, Cond.initialized RX1, Cond.code yX1_isDate cX1_isDate 3 (some .boolean), Cond.constant RX1 11 (20160101), Cond.constant RX1 12 (20661231), Cond.methodLink RX1 13 yX1_monthOf, Cond.static yX1_monthOf, Cond.code yX1_monthOf cX1_monthOf 1 (some .int), Cond.methodLink RX1 17 yX1_dayOf, Cond.static yX1_dayOf, Cond.code yX1_dayOf cX1_dayOf 1 (some .int), Cond.methodLink RX1 20 yX1_yearOf, Cond.static yX1_yearOf, Cond.code yX1_yearOf cX1_yearOf 1 (some .int), Cond.methodLink RX1 23 yX1_monthLength]
def wsX4_requireLife_r2 : List Cond := [Cond.static yX1_monthLength, Cond.code yX1_monthLength cX1_monthLength 2 (some .int)]
def wsX4_requireLife : List Cond := .code yX4_requireLife cX4_requireLife 3 none :: ((wsX4_requireLife_r1 ++ wsX4_requireLife_r2) ++ wsX40 ++ (vx_atS RX4 48 "java/lang/IllegalArgumentException" ["java/lang/RuntimeException", "java/lang/Exception"]).filter goodWord)
def wsX4_requireRate : List Cond := .code yX4_requireRate cX4_requireRate 1 none :: ([.classLink RX4 44 "java/lang/IllegalArgumentException", .initialized "java/lang/IllegalArgumentException"] ++ (vx_atS RX4 48 "java/lang/IllegalArgumentException" ["java/lang/RuntimeException", "java/lang/Exception"]).filter goodWord)
def wsX4_requireTerms : List Cond := .code yX4_requireTerms cX4_requireTerms 3 none :: ([.classLink RX4 44 "java/lang/IllegalArgumentException", .initialized "java/lang/IllegalArgumentException", .methodLink RX4 163 yX4_requireRate, .static yX4_requireRate, .initialized RX4, .code yX4_requireRate cX4_requireRate 1 none] ++ (vx_atS RX4 48 "java/lang/IllegalArgumentException" ["java/lang/RuntimeException", "java/lang/Exception"]).filter goodWord)
def wsX4_addBond_r1 : List Cond := [Cond.classLink RX4 44 "java/lang/IllegalArgumentException", Cond.initialized "java/lang/IllegalArgumentException", Cond.classLink RX4 73 "java/lang/IllegalStateException", Cond.initialized "java/lang/IllegalStateException", Cond.constant RX4 111 (20160101), Cond.fieldLink RX4 114 "BondDesk" "bondCount" "I", Cond.fieldLink RX4 15 "BondDesk" "bonds" "[LBondDesk$Bond;", Cond.classLink RX4 13 RX0, Cond.instantiable RX0 9, Cond.initialized RX0, Cond.classLink RX4 101 RX3, Cond.instantiable RX3 9, Cond.initialized RX3, Cond.fieldLink RX4 27 "BondDesk" "today" "I", Cond.methodLink RX4 92 yX4_requireLife, Cond.instanceMethod yX4_requireLife, Cond.selects RX4 yX4_requireLife yX4_requireLife, Cond.initialized RX4, Cond.code yX4_requireLife cX4_requireLife 3 none, Cond.constant RX4 78 (20661101), Cond.methodLink RX4 40 yX4_requireDate, Cond.static yX4_requireDate, Cond.code yX4_requireDate cX4_requireDate 1 none, Cond.methodLink RX4 84 yX1_isDate]
def wsX4_addBond_r2 : List Cond := [Cond.static yX1_isDate, Cond.initialized RX1, Cond.code yX1_isDate cX1_isDate 3 (some .boolean), Cond.constant RX1 11 (20160101), Cond.constant RX1 12 (20661231), Cond.methodLink RX1 13 yX1_monthOf, Cond.static yX1_monthOf, Cond.code yX1_monthOf cX1_monthOf 1 (some .int), Cond.methodLink RX1 17 yX1_dayOf, Cond.static yX1_dayOf, Cond.code yX1_dayOf cX1_dayOf 1 (some .int), Cond.methodLink RX1 20 yX1_yearOf, Cond.static yX1_yearOf, Cond.code yX1_yearOf cX1_yearOf 1 (some .int), Cond.methodLink RX1 23 yX1_monthLength, Cond.static yX1_monthLength, Cond.code yX1_monthLength cX1_monthLength 2 (some .int), Cond.methodLink RX4 96 yX4_requireTerms, Cond.static yX4_requireTerms, Cond.code yX4_requireTerms cX4_requireTerms 3 none, Cond.methodLink RX4 163 yX4_requireRate, Cond.static yX4_requireRate, Cond.code yX4_requireRate cX4_requireRate 1 none, Cond.methodLink RX4 100 yX3_countCoupons]
def wsX4_addBond_r3 : List Cond := [Cond.static yX3_countCoupons, Cond.code yX3_countCoupons cX3_countCoupons 4 (some .int), Cond.methodLink RX3 25 yX3_dateBack, Cond.static yX3_dateBack, Cond.code yX3_dateBack cX3_dateBack 3 (some .int), Cond.methodLink RX3 60 yX1_monthsBack, Cond.static yX1_monthsBack, Cond.code yX1_monthsBack cX1_monthsBack 8 (some .int), Cond.methodLink RX1 34 Lib.Math.min.name, Cond.static Lib.Math.min.name, Cond.initialized "java/lang/Math", Cond.code Lib.Math.min.name Lib.Math.min.code 2 (some .int), Cond.methodLink RX4 108 yX3_dateBack, Cond.methodLink RX4 119 yX3_init, Cond.instanceMethod yX3_init, Cond.code yX3_init cX3_init 8 none, Cond.methodLink RX3 1 objectInit, Cond.instanceMethod objectInit, Cond.code objectInit ⟨#[0xb1]⟩ 1 none, Cond.fieldLink RX3 7 "BondDesk$Schedule" "issue" "I", Cond.fieldLink RX3 13 "BondDesk$Schedule" "end" "I", Cond.fieldLink RX3 16 "BondDesk$Schedule" "rate" "I", Cond.fieldLink RX3 19 "BondDesk$Schedule" "perYear" "I", Cond.fieldLink RX3 22 "BondDesk$Schedule" "way" "I"]
def wsX4_addBond_r4 : List Cond := [Cond.fieldLink RX3 29 "BondDesk$Schedule" "regularBegin" "I", Cond.methodLink RX3 32 Lib.Math.min.name, Cond.methodLink RX3 38 Lib.Math.max.name, Cond.static Lib.Math.max.name, Cond.code Lib.Math.max.name Lib.Math.max.code 2 (some .int), Cond.arrayClass .int, Cond.fieldLink RX3 41 "BondDesk$Schedule" "dates" "[I", Cond.fieldLink RX3 49 "BondDesk$Schedule" "firstDays" "J", Cond.fieldLink RX3 57 "BondDesk$Schedule" "firstYear" "J", Cond.methodLink RX3 45 yX3_daysCounted, Cond.instanceMethod yX3_daysCounted, Cond.selects RX3 yX3_daysCounted yX3_daysCounted, Cond.code yX3_daysCounted cX3_daysCounted 3 (some .long), Cond.methodLink RX3 74 yX1_daysOf30, Cond.static yX1_daysOf30, Cond.code yX1_daysOf30 cX1_daysOf30 4 (some .int), Cond.methodLink RX3 77 yX1_daysBetween, Cond.static yX1_daysBetween, Cond.code yX1_daysBetween cX1_daysBetween 2 (some .int), Cond.methodLink RX1 31 yX1_dayNumber, Cond.static yX1_dayNumber, Cond.code yX1_dayNumber cX1_dayNumber 5 (some .int), Cond.fieldLink RX1 27 "BondDesk$Dates" "AHEAD" "[I", Cond.methodLink RX3 53 yX3_yearOfPeriod]
def wsX4_addBond_r5 : List Cond := [Cond.instanceMethod yX3_yearOfPeriod, Cond.selects RX3 yX3_yearOfPeriod yX3_yearOfPeriod, Cond.code yX3_yearOfPeriod cX3_yearOfPeriod 3 (some .long), Cond.constantLong RX3 80 (3650000), Cond.constantLong RX3 82 (3600000), Cond.constantLong RX3 65 (10000), Cond.methodLink RX4 122 yX0_init, Cond.instanceMethod yX0_init, Cond.code yX0_init cX0_init 3 none, Cond.methodLink RX0 3 objectInit, Cond.fieldLink RX0 9 "BondDesk$Bond" "schedule" "LBondDesk$Schedule;", Cond.fieldLink RX0 15 "BondDesk$Bond" "factor" "I", Cond.fieldLink RX0 25 "BondDesk$Bond" "next" "I", Cond.methodLink RX0 19 yX3_firstBehind, Cond.instanceMethod yX3_firstBehind, Cond.selects RX3 yX3_firstBehind yX3_firstBehind, Cond.code yX3_firstBehind cX3_firstBehind 3 (some .int)]
def wsX4_addBond : List Cond := .code yX4_addBond cX4_addBond 7 (some .int) :: ((wsX4_addBond_r1 ++ (wsX4_addBond_r2 ++ (wsX4_addBond_r3 ++ (wsX4_addBond_r4 ++ wsX4_addBond_r5)))) ++ wsX40 ++ wsX00 ++ wsX30 ++ (vx_atS RX4 48 "java/lang/IllegalArgumentException" ["java/lang/RuntimeException", "java/lang/Exception"]).filter goodWord ++ (vx_atS RX4 77 "java/lang/IllegalStateException" ["java/lang/RuntimeException", "java/lang/Exception"]).filter goodWord)
def wsX4_bondNumbered : List Cond := .code yX4_bondNumbered cX4_bondNumbered 3 (some (.object "BondDesk$Bond")) :: ([.classLink RX4 166 "java/lang/IndexOutOfBoundsException", .initialized "java/lang/IndexOutOfBoundsException", .fieldLink RX4 15 "BondDesk" "bonds" "[LBondDesk$Bond;"] ++ wsX40 ++ (vx_atS RX4 170 "java/lang/IndexOutOfBoundsException" ["java/lang/RuntimeException", "java/lang/Exception"]).filter goodWord)
def wsX4_requireThere : List Cond := .code yX4_requireThere cX4_requireThere 1 none :: ([.classLink RX4 73 "java/lang/IllegalStateException", .initialized "java/lang/IllegalStateException", .methodLink RX4 201 yX0_isGone, .instanceMethod yX0_isGone, .selects RX0 yX0_isGone yX0_isGone, .initialized RX0, .code yX0_isGone cX0_isGone 1 (some .boolean), .fieldLink RX0 28 "BondDesk$Bond" "state" "I"] ++ wsX00 ++ (vx_atS RX4 77 "java/lang/IllegalStateException" ["java/lang/RuntimeException", "java/lang/Exception"]).filter goodWord)
def wsX4_setSink_r1 : List Cond := [Cond.classLink RX4 44 "java/lang/IllegalArgumentException", Cond.initialized "java/lang/IllegalArgumentException", Cond.fieldLink RX4 135 "BondDesk$Bond" "sinkFrom" "I", Cond.fieldLink RX4 138 "BondDesk$Bond" "sinkPart" "I", Cond.fieldLink RX4 141 "BondDesk$Bond" "schedule" "LBondDesk$Schedule;", Cond.fieldLink RX4 145 "BondDesk$Schedule" "dates" "[I", Cond.methodLink RX4 125 yX4_bondNumbered, Cond.instanceMethod yX4_bondNumbered, Cond.selects RX4 yX4_bondNumbered yX4_bondNumbered, Cond.initialized RX4, Cond.code yX4_bondNumbered cX4_bondNumbered 3 (some (.object "BondDesk$Bond")), Cond.classLink RX4 166 "java/lang/IndexOutOfBoundsException", Cond.initialized "java/lang/IndexOutOfBoundsException", Cond.fieldLink RX4 15 "BondDesk" "bonds" "[LBondDesk$Bond;", Cond.methodLink RX4 40 yX4_requireDate, Cond.static yX4_requireDate, Cond.code yX4_requireDate cX4_requireDate 1 none, Cond.methodLink RX4 84 yX1_isDate, Cond.static yX1_isDate, Cond.initialized RX1, Cond.code yX1_isDate cX1_isDate 3 (some .boolean), Cond.constant RX1 11 (20160101), Cond.constant RX1 12 (20661231), Cond.methodLink RX1 13 yX1_monthOf]
def wsX4_setSink_r2 : List Cond := [Cond.static yX1_monthOf, Cond.code yX1_monthOf cX1_monthOf 1 (some .int), Cond.methodLink RX1 17 yX1_dayOf, Cond.static yX1_dayOf, Cond.code yX1_dayOf cX1_dayOf 1 (some .int), Cond.methodLink RX1 20 yX1_yearOf, Cond.static yX1_yearOf, Cond.code yX1_yearOf cX1_yearOf 1 (some .int), Cond.methodLink RX1 23 yX1_monthLength, Cond.static yX1_monthLength, Cond.code yX1_monthLength cX1_monthLength 2 (some .int), Cond.methodLink RX4 131 yX4_requireThere, Cond.static yX4_requireThere, Cond.code yX4_requireThere cX4_requireThere 1 none, Cond.classLink RX4 73 "java/lang/IllegalStateException", Cond.initialized "java/lang/IllegalStateException", Cond.methodLink RX4 201 yX0_isGone, Cond.instanceMethod yX0_isGone, Cond.selects RX0 yX0_isGone yX0_isGone, Cond.initialized RX0, Cond.code yX0_isGone cX0_isGone 1 (some .boolean), Cond.fieldLink RX0 28 "BondDesk$Bond" "state" "I", Cond.methodLink RX4 148 yX0_factorBehind, Cond.instanceMethod yX0_factorBehind]
def wsX4_setSink_r3 : List Cond := [Cond.selects RX0 yX0_factorBehind yX0_factorBehind, Cond.code yX0_factorBehind cX0_factorBehind 4 (some .int), Cond.fieldLink RX0 15 "BondDesk$Bond" "factor" "I", Cond.fieldLink RX0 25 "BondDesk$Bond" "next" "I", Cond.methodLink RX0 88 yX0_sunkOn, Cond.instanceMethod yX0_sunkOn, Cond.selects RX0 yX0_sunkOn yX0_sunkOn, Cond.code yX0_sunkOn cX0_sunkOn 4 (some .int), Cond.fieldLink RX0 9 "BondDesk$Bond" "schedule" "LBondDesk$Schedule;", Cond.fieldLink RX0 66 "BondDesk$Schedule" "dates" "[I", Cond.fieldLink RX0 70 "BondDesk$Bond" "sinkFrom" "I", Cond.fieldLink RX0 73 "BondDesk$Bond" "sinkPart" "I", Cond.methodLink RX0 76 Lib.Math.min.name, Cond.static Lib.Math.min.name, Cond.initialized "java/lang/Math", Cond.code Lib.Math.min.name Lib.Math.min.code 2 (some .int)]
def wsX4_setSink : List Cond := .code yX4_setSink cX4_setSink 5 (some .int) :: ((wsX4_setSink_r1 ++ (wsX4_setSink_r2 ++ wsX4_setSink_r3)) ++ wsX00 ++ wsX30 ++ wsX40 ++ (vx_atS RX4 48 "java/lang/IllegalArgumentException" ["java/lang/RuntimeException", "java/lang/Exception"]).filter goodWord ++ (vx_atS RX4 170 "java/lang/IndexOutOfBoundsException" ["java/lang/RuntimeException", "java/lang/Exception"]).filter goodWord ++ (vx_atS RX4 77 "java/lang/IllegalStateException" ["java/lang/RuntimeException", "java/lang/Exception"]).filter goodWord)
def wsX4_setCall_r1 : List Cond := [Cond.classLink RX4 44 "java/lang/IllegalArgumentException", Cond.initialized "java/lang/IllegalArgumentException", Cond.fieldLink RX4 153 "BondDesk$Bond" "callFrom" "I", Cond.fieldLink RX4 156 "BondDesk$Bond" "callPrice" "I", Cond.methodLink RX4 125 yX4_bondNumbered, Cond.instanceMethod yX4_bondNumbered, Cond.selects RX4 yX4_bondNumbered yX4_bondNumbered, Cond.initialized RX4, Cond.code yX4_bondNumbered cX4_bondNumbered 3 (some (.object "BondDesk$Bond")), Cond.classLink RX4 166 "java/lang/IndexOutOfBoundsException", Cond.initialized "java/lang/IndexOutOfBoundsException", Cond.fieldLink RX4 15 "BondDesk" "bonds" "[LBondDesk$Bond;", Cond.methodLink RX4 40 yX4_requireDate, Cond.static yX4_requireDate, Cond.code yX4_requireDate cX4_requireDate 1 none, Cond.methodLink RX4 84 yX1_isDate, Cond.static yX1_isDate, Cond.initialized RX1, Cond.code yX1_isDate cX1_isDate 3 (some .boolean), Cond.constant RX1 11 (20160101), Cond.constant RX1 12 (20661231), Cond.methodLink RX1 13 yX1_monthOf, Cond.static yX1_monthOf, Cond.code yX1_monthOf cX1_monthOf 1 (some .int)]
def wsX4_setCall_r2 : List Cond := [Cond.methodLink RX1 17 yX1_dayOf, Cond.static yX1_dayOf, Cond.code yX1_dayOf cX1_dayOf 1 (some .int), Cond.methodLink RX1 20 yX1_yearOf, Cond.static yX1_yearOf, Cond.code yX1_yearOf cX1_yearOf 1 (some .int), Cond.methodLink RX1 23 yX1_monthLength, Cond.static yX1_monthLength, Cond.code yX1_monthLength cX1_monthLength 2 (some .int), Cond.methodLink RX4 131 yX4_requireThere, Cond.static yX4_requireThere, Cond.code yX4_requireThere cX4_requireThere 1 none, Cond.classLink RX4 73 "java/lang/IllegalStateException", Cond.initialized "java/lang/IllegalStateException", Cond.methodLink RX4 201 yX0_isGone, Cond.instanceMethod yX0_isGone, Cond.selects RX0 yX0_isGone yX0_isGone, Cond.initialized RX0, Cond.code yX0_isGone cX0_isGone 1 (some .boolean), Cond.fieldLink RX0 28 "BondDesk$Bond" "state" "I", Cond.methodLink RX4 159 yX0_firstCall, Cond.instanceMethod yX0_firstCall, Cond.selects RX0 yX0_firstCall yX0_firstCall, Cond.code yX0_firstCall cX0_firstCall 2 (some .int)]
def wsX4_setCall_r3 : List Cond := [Cond.fieldLink RX0 25 "BondDesk$Bond" "next" "I", Cond.fieldLink RX0 9 "BondDesk$Bond" "schedule" "LBondDesk$Schedule;", Cond.fieldLink RX0 66 "BondDesk$Schedule" "dates" "[I", Cond.methodLink RX0 124 yX0_isCallDate, Cond.instanceMethod yX0_isCallDate, Cond.selects RX0 yX0_isCallDate yX0_isCallDate, Cond.code yX0_isCallDate cX0_isCallDate 2 (some .boolean), Cond.fieldLink RX0 118 "BondDesk$Bond" "callPrice" "I", Cond.fieldLink RX0 121 "BondDesk$Bond" "callFrom" "I"]
def wsX4_setCall : List Cond := .code yX4_setCall cX4_setCall 5 (some .int) :: ((wsX4_setCall_r1 ++ (wsX4_setCall_r2 ++ wsX4_setCall_r3)) ++ wsX00 ++ wsX40 ++ wsX30 ++ (vx_atS RX4 48 "java/lang/IllegalArgumentException" ["java/lang/RuntimeException", "java/lang/Exception"]).filter goodWord ++ (vx_atS RX4 170 "java/lang/IndexOutOfBoundsException" ["java/lang/RuntimeException", "java/lang/Exception"]).filter goodWord ++ (vx_atS RX4 77 "java/lang/IllegalStateException" ["java/lang/RuntimeException", "java/lang/Exception"]).filter goodWord)
def wsX4_setRate : List Cond := .code yX4_setRate cX4_setRate 3 (some .int) :: ([.fieldLink RX4 37 "BondDesk" "refinancing" "I", .methodLink RX4 163 yX4_requireRate, .static yX4_requireRate, .initialized RX4, .code yX4_requireRate cX4_requireRate 1 none, .classLink RX4 44 "java/lang/IllegalArgumentException", .initialized "java/lang/IllegalArgumentException"] ++ wsX40 ++ (vx_atS RX4 48 "java/lang/IllegalArgumentException" ["java/lang/RuntimeException", "java/lang/Exception"]).filter goodWord)
def wsX4_bond_r1 : List Cond := [Cond.classLink RX4 166 "java/lang/IndexOutOfBoundsException", Cond.initialized "java/lang/IndexOutOfBoundsException", Cond.methodLink RX4 125 yX4_bondNumbered, Cond.instanceMethod yX4_bondNumbered, Cond.selects RX4 yX4_bondNumbered yX4_bondNumbered, Cond.initialized RX4, Cond.code yX4_bondNumbered cX4_bondNumbered 3 (some (.object "BondDesk$Bond")), Cond.fieldLink RX4 15 "BondDesk" "bonds" "[LBondDesk$Bond;", Cond.methodLink RX4 171 yX0_tell, Cond.instanceMethod yX0_tell, Cond.selects RX0 yX0_tell yX0_tell, Cond.initialized RX0, Cond.code yX0_tell cX0_tell 2 (some .int), Cond.fieldLink RX0 9 "BondDesk$Bond" "schedule" "LBondDesk$Schedule;", Cond.fieldLink RX0 31 "BondDesk$Schedule" "issue" "I", Cond.fieldLink RX0 42 "BondDesk$Schedule" "end" "I", Cond.fieldLink RX0 163 "BondDesk$Schedule" "rate" "I", Cond.fieldLink RX0 91 "BondDesk$Schedule" "perYear" "I", Cond.fieldLink RX0 166 "BondDesk$Schedule" "way" "I", Cond.fieldLink RX0 15 "BondDesk$Bond" "factor" "I", Cond.fieldLink RX0 66 "BondDesk$Schedule" "dates" "[I", Cond.fieldLink RX0 25 "BondDesk$Bond" "next" "I", Cond.fieldLink RX0 28 "BondDesk$Bond" "state" "I", Cond.fieldLink RX0 147 "BondDesk$Bond" "pieces" "I"]
def wsX4_bond_r2 : List Cond := [Cond.methodLink RX0 58 yX0_face, Cond.instanceMethod yX0_face, Cond.selects RX0 yX0_face yX0_face, Cond.code yX0_face cX0_face 1 (some .long), Cond.methodLink RX0 54 yX0_faceOf, Cond.static yX0_faceOf, Cond.code yX0_faceOf cX0_faceOf 1 (some .long), Cond.constantLong RX0 50 (100000), Cond.constantLong RX0 52 (10000), Cond.methodLink RX0 34 yX0_isGone, Cond.instanceMethod yX0_isGone, Cond.selects RX0 yX0_isGone yX0_isGone, Cond.code yX0_isGone cX0_isGone 1 (some .boolean)]
def wsX4_bond : List Cond := .code yX4_bond cX4_bond 4 (some .int) :: ((wsX4_bond_r1 ++ wsX4_bond_r2) ++ wsX40 ++ wsX00 ++ wsX30 ++ (vx_atS RX4 170 "java/lang/IndexOutOfBoundsException" ["java/lang/RuntimeException", "java/lang/Exception"]).filter goodWord)
def wsX4_coupon_r1 : List Cond := [Cond.classLink RX4 166 "java/lang/IndexOutOfBoundsException", Cond.initialized "java/lang/IndexOutOfBoundsException", Cond.fieldLink RX4 141 "BondDesk$Bond" "schedule" "LBondDesk$Schedule;", Cond.fieldLink RX4 145 "BondDesk$Schedule" "dates" "[I", Cond.constantLong RX4 179 (100000), Cond.methodLink RX4 125 yX4_bondNumbered, Cond.instanceMethod yX4_bondNumbered, Cond.selects RX4 yX4_bondNumbered yX4_bondNumbered, Cond.initialized RX4, Cond.code yX4_bondNumbered cX4_bondNumbered 3 (some (.object "BondDesk$Bond")), Cond.fieldLink RX4 15 "BondDesk" "bonds" "[LBondDesk$Bond;", Cond.methodLink RX4 81 yX4_nextWorkingDate, Cond.instanceMethod yX4_nextWorkingDate, Cond.selects RX4 yX4_nextWorkingDate yX4_nextWorkingDate, Cond.code yX4_nextWorkingDate cX4_nextWorkingDate 4 (some .int), Cond.methodLink RX4 51 yX1_dayNumber, Cond.static yX1_dayNumber, Cond.initialized RX1, Cond.code yX1_dayNumber cX1_dayNumber 5 (some .int), Cond.fieldLink RX1 27 "BondDesk$Dates" "AHEAD" "[I", Cond.methodLink RX4 89 yX4_isWorkingDay, Cond.instanceMethod yX4_isWorkingDay, Cond.selects RX4 yX4_isWorkingDay yX4_isWorkingDay, Cond.code yX4_isWorkingDay cX4_isWorkingDay 2 (some .boolean)]
def wsX4_coupon_r2 : List Cond := [Cond.methodLink RX4 63 yX1_dayOfWeek, Cond.static yX1_dayOfWeek, Cond.code yX1_dayOfWeek cX1_dayOfWeek 1 (some .int), Cond.methodLink RX4 60 yX1_dateOf, Cond.static yX1_dateOf, Cond.code yX1_dateOf cX1_dateOf 5 (some .int), Cond.methodLink RX1 23 yX1_monthLength, Cond.static yX1_monthLength, Cond.code yX1_monthLength cX1_monthLength 2 (some .int), Cond.methodLink RX4 66 yX4_isHoliday, Cond.instanceMethod yX4_isHoliday, Cond.selects RX4 yX4_isHoliday yX4_isHoliday, Cond.code yX4_isHoliday cX4_isHoliday 6 (some .boolean), Cond.fieldLink RX4 9 "BondDesk" "holidays" "[I", Cond.methodLink RX4 176 yX3_beginOf, Cond.instanceMethod yX3_beginOf, Cond.selects RX3 yX3_beginOf yX3_beginOf, Cond.initialized RX3, Cond.code yX3_beginOf cX3_beginOf 2 (some .int), Cond.fieldLink RX3 41 "BondDesk$Schedule" "dates" "[I", Cond.fieldLink RX3 7 "BondDesk$Schedule" "issue" "I", Cond.methodLink RX4 181 yX3_couponFor, Cond.instanceMethod yX3_couponFor, Cond.selects RX3 yX3_couponFor yX3_couponFor]
def wsX4_coupon_r3 : List Cond := [Cond.code yX3_couponFor cX3_couponFor 6 (some .long), Cond.fieldLink RX3 29 "BondDesk$Schedule" "regularBegin" "I", Cond.fieldLink RX3 57 "BondDesk$Schedule" "firstYear" "J", Cond.fieldLink RX3 16 "BondDesk$Schedule" "rate" "I", Cond.fieldLink RX3 49 "BondDesk$Schedule" "firstDays" "J", Cond.constantLong RX3 65 (10000), Cond.fieldLink RX3 19 "BondDesk$Schedule" "perYear" "I"]
def wsX4_coupon : List Cond := .code yX4_coupon cX4_coupon 5 (some .int) :: ((wsX4_coupon_r1 ++ (wsX4_coupon_r2 ++ wsX4_coupon_r3)) ++ wsX00 ++ wsX30 ++ wsX40 ++ (vx_atS RX4 170 "java/lang/IndexOutOfBoundsException" ["java/lang/RuntimeException", "java/lang/Exception"]).filter goodWord)
def wsX4_accrued_r1 : List Cond := [Cond.methodLink RX4 125 yX4_bondNumbered, Cond.instanceMethod yX4_bondNumbered, Cond.selects RX4 yX4_bondNumbered yX4_bondNumbered, Cond.initialized RX4, Cond.code yX4_bondNumbered cX4_bondNumbered 3 (some (.object "BondDesk$Bond")), Cond.classLink RX4 166 "java/lang/IndexOutOfBoundsException", Cond.initialized "java/lang/IndexOutOfBoundsException", Cond.fieldLink RX4 15 "BondDesk" "bonds" "[LBondDesk$Bond;", Cond.methodLink RX4 40 yX4_requireDate, Cond.static yX4_requireDate, Cond.code yX4_requireDate cX4_requireDate 1 none, Cond.classLink RX4 44 "java/lang/IllegalArgumentException", Cond.initialized "java/lang/IllegalArgumentException", Cond.methodLink RX4 84 yX1_isDate, Cond.static yX1_isDate, Cond.initialized RX1, Cond.code yX1_isDate cX1_isDate 3 (some .boolean), Cond.constant RX1 11 (20160101), Cond.constant RX1 12 (20661231), Cond.methodLink RX1 13 yX1_monthOf, Cond.static yX1_monthOf, Cond.code yX1_monthOf cX1_monthOf 1 (some .int), Cond.methodLink RX1 17 yX1_dayOf, Cond.static yX1_dayOf]
def wsX4_accrued_r2 : List Cond := [Cond.code yX1_dayOf cX1_dayOf 1 (some .int), Cond.methodLink RX1 20 yX1_yearOf, Cond.static yX1_yearOf, Cond.code yX1_yearOf cX1_yearOf 1 (some .int), Cond.methodLink RX1 23 yX1_monthLength, Cond.static yX1_monthLength, Cond.code yX1_monthLength cX1_monthLength 2 (some .int), Cond.methodLink RX4 187 yX0_accruedOn, Cond.instanceMethod yX0_accruedOn, Cond.selects RX0 yX0_accruedOn yX0_accruedOn, Cond.initialized RX0, Cond.code yX0_accruedOn cX0_accruedOn 2 (some .long), Cond.fieldLink RX0 9 "BondDesk$Bond" "schedule" "LBondDesk$Schedule;", Cond.methodLink RX0 34 yX0_isGone, Cond.instanceMethod yX0_isGone, Cond.selects RX0 yX0_isGone yX0_isGone, Cond.code yX0_isGone cX0_isGone 1 (some .boolean), Cond.fieldLink RX0 28 "BondDesk$Bond" "state" "I", Cond.methodLink RX0 58 yX0_face, Cond.instanceMethod yX0_face, Cond.selects RX0 yX0_face yX0_face, Cond.code yX0_face cX0_face 1 (some .long), Cond.fieldLink RX0 15 "BondDesk$Bond" "factor" "I", Cond.methodLink RX0 54 yX0_faceOf]
def wsX4_accrued_r3 : List Cond := [Cond.static yX0_faceOf, Cond.code yX0_faceOf cX0_faceOf 1 (some .long), Cond.constantLong RX0 50 (100000), Cond.constantLong RX0 52 (10000), Cond.methodLink RX0 62 yX3_accruedFor, Cond.instanceMethod yX3_accruedFor, Cond.selects RX3 yX3_accruedFor yX3_accruedFor, Cond.initialized RX3, Cond.code yX3_accruedFor cX3_accruedFor 7 (some .long), Cond.fieldLink RX3 7 "BondDesk$Schedule" "issue" "I", Cond.fieldLink RX3 41 "BondDesk$Schedule" "dates" "[I", Cond.fieldLink RX3 16 "BondDesk$Schedule" "rate" "I", Cond.methodLink RX3 67 yX3_firstBehind, Cond.instanceMethod yX3_firstBehind, Cond.selects RX3 yX3_firstBehind yX3_firstBehind, Cond.code yX3_firstBehind cX3_firstBehind 3 (some .int), Cond.methodLink RX3 53 yX3_yearOfPeriod, Cond.instanceMethod yX3_yearOfPeriod, Cond.selects RX3 yX3_yearOfPeriod yX3_yearOfPeriod, Cond.code yX3_yearOfPeriod cX3_yearOfPeriod 3 (some .long), Cond.fieldLink RX3 22 "BondDesk$Schedule" "way" "I", Cond.constantLong RX3 80 (3650000), Cond.constantLong RX3 82 (3600000), Cond.fieldLink RX3 29 "BondDesk$Schedule" "regularBegin" "I"]
def wsX4_accrued_r4 : List Cond := [Cond.constantLong RX3 65 (10000), Cond.fieldLink RX3 19 "BondDesk$Schedule" "perYear" "I", Cond.methodLink RX3 77 yX1_daysBetween, Cond.static yX1_daysBetween, Cond.code yX1_daysBetween cX1_daysBetween 2 (some .int), Cond.methodLink RX1 31 yX1_dayNumber, Cond.static yX1_dayNumber, Cond.code yX1_dayNumber cX1_dayNumber 5 (some .int), Cond.fieldLink RX1 27 "BondDesk$Dates" "AHEAD" "[I", Cond.methodLink RX3 71 yX3_beginOf, Cond.instanceMethod yX3_beginOf, Cond.selects RX3 yX3_beginOf yX3_beginOf, Cond.code yX3_beginOf cX3_beginOf 2 (some .int), Cond.methodLink RX3 45 yX3_daysCounted, Cond.instanceMethod yX3_daysCounted, Cond.selects RX3 yX3_daysCounted yX3_daysCounted, Cond.code yX3_daysCounted cX3_daysCounted 3 (some .long), Cond.methodLink RX3 74 yX1_daysOf30, Cond.static yX1_daysOf30, Cond.code yX1_daysOf30 cX1_daysOf30 4 (some .int), Cond.methodLink RX1 34 Lib.Math.min.name, Cond.static Lib.Math.min.name, Cond.initialized "java/lang/Math", Cond.code Lib.Math.min.name Lib.Math.min.code 2 (some .int)]
def wsX4_accrued : List Cond := .code yX4_accrued cX4_accrued 4 (some .int) :: ((wsX4_accrued_r1 ++ (wsX4_accrued_r2 ++ (wsX4_accrued_r3 ++ wsX4_accrued_r4))) ++ wsX40 ++ wsX00 ++ wsX30 ++ (vx_atS RX4 170 "java/lang/IndexOutOfBoundsException" ["java/lang/RuntimeException", "java/lang/Exception"]).filter goodWord ++ (vx_atS RX4 48 "java/lang/IllegalArgumentException" ["java/lang/RuntimeException", "java/lang/Exception"]).filter goodWord)
def wsX4_requireYield : List Cond := .code yX4_requireYield cX4_requireYield 1 none :: ([.classLink RX4 44 "java/lang/IllegalArgumentException", .initialized "java/lang/IllegalArgumentException"] ++ (vx_atS RX4 48 "java/lang/IllegalArgumentException" ["java/lang/RuntimeException", "java/lang/Exception"]).filter goodWord)
def wsX4_worth_r1 : List Cond := [Cond.fieldLink RX4 27 "BondDesk" "today" "I", Cond.fieldLink RX4 212 "BondDesk$Bond" "factor" "I", Cond.methodLink RX4 125 yX4_bondNumbered, Cond.instanceMethod yX4_bondNumbered, Cond.selects RX4 yX4_bondNumbered yX4_bondNumbered, Cond.initialized RX4, Cond.code yX4_bondNumbered cX4_bondNumbered 3 (some (.object "BondDesk$Bond")), Cond.classLink RX4 166 "java/lang/IndexOutOfBoundsException", Cond.initialized "java/lang/IndexOutOfBoundsException", Cond.fieldLink RX4 15 "BondDesk" "bonds" "[LBondDesk$Bond;", Cond.methodLink RX4 209 yX4_requireYield, Cond.static yX4_requireYield, Cond.code yX4_requireYield cX4_requireYield 1 none, Cond.classLink RX4 44 "java/lang/IllegalArgumentException", Cond.initialized "java/lang/IllegalArgumentException", Cond.methodLink RX4 215 yX0_worthAt, Cond.instanceMethod yX0_worthAt, Cond.selects RX0 yX0_worthAt yX0_worthAt, Cond.initialized RX0, Cond.code yX0_worthAt cX0_worthAt 14 (some .long), Cond.fieldLink RX0 9 "BondDesk$Bond" "schedule" "LBondDesk$Schedule;", Cond.constantLong RX0 52 (10000), Cond.fieldLink RX0 91 "BondDesk$Schedule" "perYear" "I", Cond.fieldLink RX0 66 "BondDesk$Schedule" "dates" "[I"]
def wsX4_worth_r2 : List Cond := [Cond.constantLong RX0 94 (3650000), Cond.constantLong RX0 99 (3650000000000000), Cond.constantLong RX0 105 (1000000000), Cond.methodLink RX0 19 yX3_firstBehind, Cond.instanceMethod yX3_firstBehind, Cond.selects RX3 yX3_firstBehind yX3_firstBehind, Cond.initialized RX3, Cond.code yX3_firstBehind cX3_firstBehind 3 (some .int), Cond.fieldLink RX3 41 "BondDesk$Schedule" "dates" "[I", Cond.methodLink RX0 34 yX0_isGone, Cond.instanceMethod yX0_isGone, Cond.selects RX0 yX0_isGone yX0_isGone, Cond.code yX0_isGone cX0_isGone 1 (some .boolean), Cond.fieldLink RX0 28 "BondDesk$Bond" "state" "I", Cond.methodLink RX0 96 yX1_daysBetween, Cond.static yX1_daysBetween, Cond.initialized RX1, Cond.code yX1_daysBetween cX1_daysBetween 2 (some .int), Cond.methodLink RX1 31 yX1_dayNumber, Cond.static yX1_dayNumber, Cond.code yX1_dayNumber cX1_dayNumber 5 (some .int), Cond.fieldLink RX1 27 "BondDesk$Dates" "AHEAD" "[I", Cond.methodLink RX0 101 yX0_paymentOn, Cond.instanceMethod yX0_paymentOn]
def wsX4_worth_r3 : List Cond := [Cond.selects RX0 yX0_paymentOn yX0_paymentOn, Cond.code yX0_paymentOn cX0_paymentOn 3 (some .long), Cond.methodLink RX0 54 yX0_faceOf, Cond.static yX0_faceOf, Cond.code yX0_faceOf cX0_faceOf 1 (some .long), Cond.constantLong RX0 50 (100000), Cond.methodLink RX0 82 yX3_couponFor, Cond.instanceMethod yX3_couponFor, Cond.selects RX3 yX3_couponFor yX3_couponFor, Cond.code yX3_couponFor cX3_couponFor 6 (some .long), Cond.fieldLink RX3 29 "BondDesk$Schedule" "regularBegin" "I", Cond.fieldLink RX3 7 "BondDesk$Schedule" "issue" "I", Cond.fieldLink RX3 57 "BondDesk$Schedule" "firstYear" "J", Cond.fieldLink RX3 16 "BondDesk$Schedule" "rate" "I", Cond.fieldLink RX3 49 "BondDesk$Schedule" "firstDays" "J", Cond.constantLong RX3 65 (10000), Cond.fieldLink RX3 19 "BondDesk$Schedule" "perYear" "I", Cond.methodLink RX0 85 yX0_isEnd, Cond.instanceMethod yX0_isEnd, Cond.selects RX0 yX0_isEnd yX0_isEnd, Cond.code yX0_isEnd cX0_isEnd 2 (some .boolean), Cond.methodLink RX0 88 yX0_sunkOn, Cond.instanceMethod yX0_sunkOn, Cond.selects RX0 yX0_sunkOn yX0_sunkOn]
def wsX4_worth_r4 : List Cond := [Cond.code yX0_sunkOn cX0_sunkOn 4 (some .int), Cond.fieldLink RX0 70 "BondDesk$Bond" "sinkFrom" "I", Cond.fieldLink RX0 73 "BondDesk$Bond" "sinkPart" "I", Cond.methodLink RX0 76 Lib.Math.min.name, Cond.static Lib.Math.min.name, Cond.initialized "java/lang/Math", Cond.code Lib.Math.min.name Lib.Math.min.code 2 (some .int)]
def wsX4_worth : List Cond := .code yX4_worth cX4_worth 4 (some .int) :: ((wsX4_worth_r1 ++ (wsX4_worth_r2 ++ (wsX4_worth_r3 ++ wsX4_worth_r4))) ++ wsX40 ++ wsX00 ++ wsX30 ++ (vx_atS RX4 170 "java/lang/IndexOutOfBoundsException" ["java/lang/RuntimeException", "java/lang/Exception"]).filter goodWord ++ (vx_atS RX4 48 "java/lang/IllegalArgumentException" ["java/lang/RuntimeException", "java/lang/Exception"]).filter goodWord)
def wsX4_requirePrice : List Cond := .code yX4_requirePrice cX4_requirePrice 1 none :: ([.classLink RX4 44 "java/lang/IllegalArgumentException", .initialized "java/lang/IllegalArgumentException"] ++ (vx_atS RX4 48 "java/lang/IllegalArgumentException" ["java/lang/RuntimeException", "java/lang/Exception"]).filter goodWord)
def wsX4_yields_r1 : List Cond := [Cond.fieldLink RX4 27 "BondDesk" "today" "I", Cond.methodLink RX4 125 yX4_bondNumbered, Cond.instanceMethod yX4_bondNumbered, Cond.selects RX4 yX4_bondNumbered yX4_bondNumbered, Cond.initialized RX4, Cond.code yX4_bondNumbered cX4_bondNumbered 3 (some (.object "BondDesk$Bond")), Cond.classLink RX4 166 "java/lang/IndexOutOfBoundsException", Cond.initialized "java/lang/IndexOutOfBoundsException", Cond.fieldLink RX4 15 "BondDesk" "bonds" "[LBondDesk$Bond;", Cond.methodLink RX4 219 yX4_requirePrice, Cond.static yX4_requirePrice, Cond.code yX4_requirePrice cX4_requirePrice 1 none, Cond.classLink RX4 44 "java/lang/IllegalArgumentException", Cond.initialized "java/lang/IllegalArgumentException", Cond.methodLink RX4 222 yX0_yieldAt, Cond.instanceMethod yX0_yieldAt, Cond.selects RX0 yX0_yieldAt yX0_yieldAt, Cond.initialized RX0, Cond.code yX0_yieldAt cX0_yieldAt 3 (some .int), Cond.fieldLink RX0 15 "BondDesk$Bond" "factor" "I", Cond.methodLink RX0 34 yX0_isGone, Cond.instanceMethod yX0_isGone, Cond.selects RX0 yX0_isGone yX0_isGone, Cond.code yX0_isGone cX0_isGone 1 (some .boolean)]
def wsX4_yields_r2 : List Cond := [Cond.fieldLink RX0 28 "BondDesk$Bond" "state" "I", Cond.methodLink RX0 111 yX0_fullPrice, Cond.instanceMethod yX0_fullPrice, Cond.selects RX0 yX0_fullPrice yX0_fullPrice, Cond.code yX0_fullPrice cX0_fullPrice 3 (some .long), Cond.constantLong RX0 52 (10000), Cond.fieldLink RX0 9 "BondDesk$Bond" "schedule" "LBondDesk$Schedule;", Cond.methodLink RX0 58 yX0_face, Cond.instanceMethod yX0_face, Cond.selects RX0 yX0_face yX0_face, Cond.code yX0_face cX0_face 1 (some .long), Cond.methodLink RX0 54 yX0_faceOf, Cond.static yX0_faceOf, Cond.code yX0_faceOf cX0_faceOf 1 (some .long), Cond.constantLong RX0 50 (100000), Cond.methodLink RX0 62 yX3_accruedFor, Cond.instanceMethod yX3_accruedFor, Cond.selects RX3 yX3_accruedFor yX3_accruedFor, Cond.initialized RX3, Cond.code yX3_accruedFor cX3_accruedFor 7 (some .long), Cond.fieldLink RX3 7 "BondDesk$Schedule" "issue" "I", Cond.fieldLink RX3 41 "BondDesk$Schedule" "dates" "[I", Cond.fieldLink RX3 16 "BondDesk$Schedule" "rate" "I", Cond.methodLink RX3 67 yX3_firstBehind]
def wsX4_yields_r3 : List Cond := [Cond.instanceMethod yX3_firstBehind, Cond.selects RX3 yX3_firstBehind yX3_firstBehind, Cond.code yX3_firstBehind cX3_firstBehind 3 (some .int), Cond.methodLink RX3 53 yX3_yearOfPeriod, Cond.instanceMethod yX3_yearOfPeriod, Cond.selects RX3 yX3_yearOfPeriod yX3_yearOfPeriod, Cond.code yX3_yearOfPeriod cX3_yearOfPeriod 3 (some .long), Cond.fieldLink RX3 22 "BondDesk$Schedule" "way" "I", Cond.constantLong RX3 80 (3650000), Cond.constantLong RX3 82 (3600000), Cond.fieldLink RX3 29 "BondDesk$Schedule" "regularBegin" "I", Cond.constantLong RX3 65 (10000), Cond.fieldLink RX3 19 "BondDesk$Schedule" "perYear" "I", Cond.methodLink RX3 77 yX1_daysBetween, Cond.static yX1_daysBetween, Cond.initialized RX1, Cond.code yX1_daysBetween cX1_daysBetween 2 (some .int), Cond.methodLink RX1 31 yX1_dayNumber, Cond.static yX1_dayNumber, Cond.code yX1_dayNumber cX1_dayNumber 5 (some .int), Cond.fieldLink RX1 27 "BondDesk$Dates" "AHEAD" "[I", Cond.methodLink RX3 71 yX3_beginOf, Cond.instanceMethod yX3_beginOf, Cond.selects RX3 yX3_beginOf yX3_beginOf]
def wsX4_yields_r4 : List Cond := [Cond.code yX3_beginOf cX3_beginOf 2 (some .int), Cond.methodLink RX3 45 yX3_daysCounted, Cond.instanceMethod yX3_daysCounted, Cond.selects RX3 yX3_daysCounted yX3_daysCounted, Cond.code yX3_daysCounted cX3_daysCounted 3 (some .long), Cond.methodLink RX3 74 yX1_daysOf30, Cond.static yX1_daysOf30, Cond.code yX1_daysOf30 cX1_daysOf30 4 (some .int), Cond.methodLink RX1 34 Lib.Math.min.name, Cond.static Lib.Math.min.name, Cond.initialized "java/lang/Math", Cond.code Lib.Math.min.name Lib.Math.min.code 2 (some .int), Cond.methodLink RX1 17 yX1_dayOf, Cond.static yX1_dayOf, Cond.code yX1_dayOf cX1_dayOf 1 (some .int), Cond.methodLink RX1 20 yX1_yearOf, Cond.static yX1_yearOf, Cond.code yX1_yearOf cX1_yearOf 1 (some .int), Cond.methodLink RX1 13 yX1_monthOf, Cond.static yX1_monthOf, Cond.code yX1_monthOf cX1_monthOf 1 (some .int), Cond.methodLink RX0 114 yX0_greatestRate, Cond.instanceMethod yX0_greatestRate, Cond.selects RX0 yX0_greatestRate yX0_greatestRate]
def wsX4_yields_r5 : List Cond := [Cond.code yX0_greatestRate cX0_greatestRate 8 (some .int), Cond.methodLink RX0 107 yX0_worthAt, Cond.instanceMethod yX0_worthAt, Cond.selects RX0 yX0_worthAt yX0_worthAt, Cond.code yX0_worthAt cX0_worthAt 14 (some .long), Cond.fieldLink RX0 91 "BondDesk$Schedule" "perYear" "I", Cond.fieldLink RX0 66 "BondDesk$Schedule" "dates" "[I", Cond.constantLong RX0 94 (3650000), Cond.constantLong RX0 99 (3650000000000000), Cond.constantLong RX0 105 (1000000000), Cond.methodLink RX0 19 yX3_firstBehind, Cond.methodLink RX0 96 yX1_daysBetween, Cond.methodLink RX0 101 yX0_paymentOn, Cond.instanceMethod yX0_paymentOn, Cond.selects RX0 yX0_paymentOn yX0_paymentOn, Cond.code yX0_paymentOn cX0_paymentOn 3 (some .long), Cond.methodLink RX0 82 yX3_couponFor, Cond.instanceMethod yX3_couponFor, Cond.selects RX3 yX3_couponFor yX3_couponFor, Cond.code yX3_couponFor cX3_couponFor 6 (some .long), Cond.fieldLink RX3 57 "BondDesk$Schedule" "firstYear" "J", Cond.fieldLink RX3 49 "BondDesk$Schedule" "firstDays" "J", Cond.methodLink RX0 85 yX0_isEnd, Cond.instanceMethod yX0_isEnd]
def wsX4_yields_r6 : List Cond := [Cond.selects RX0 yX0_isEnd yX0_isEnd, Cond.code yX0_isEnd cX0_isEnd 2 (some .boolean), Cond.methodLink RX0 88 yX0_sunkOn, Cond.instanceMethod yX0_sunkOn, Cond.selects RX0 yX0_sunkOn yX0_sunkOn, Cond.code yX0_sunkOn cX0_sunkOn 4 (some .int), Cond.fieldLink RX0 70 "BondDesk$Bond" "sinkFrom" "I", Cond.fieldLink RX0 73 "BondDesk$Bond" "sinkPart" "I", Cond.methodLink RX0 76 Lib.Math.min.name]
def wsX4_yields : List Cond := .code yX4_yields cX4_yields 4 (some .int) :: ((wsX4_yields_r1 ++ (wsX4_yields_r2 ++ (wsX4_yields_r3 ++ (wsX4_yields_r4 ++ (wsX4_yields_r5 ++ wsX4_yields_r6))))) ++ wsX40 ++ wsX00 ++ wsX30 ++ (vx_atS RX4 170 "java/lang/IndexOutOfBoundsException" ["java/lang/RuntimeException", "java/lang/Exception"]).filter goodWord ++ (vx_atS RX4 48 "java/lang/IllegalArgumentException" ["java/lang/RuntimeException", "java/lang/Exception"]).filter goodWord)
def wsX4_moves_r1 : List Cond := [Cond.fieldLink RX4 27 "BondDesk" "today" "I", Cond.fieldLink RX4 212 "BondDesk$Bond" "factor" "I", Cond.methodLink RX4 125 yX4_bondNumbered, Cond.instanceMethod yX4_bondNumbered, Cond.selects RX4 yX4_bondNumbered yX4_bondNumbered, Cond.initialized RX4, Cond.code yX4_bondNumbered cX4_bondNumbered 3 (some (.object "BondDesk$Bond")), Cond.classLink RX4 166 "java/lang/IndexOutOfBoundsException", Cond.initialized "java/lang/IndexOutOfBoundsException", Cond.fieldLink RX4 15 "BondDesk" "bonds" "[LBondDesk$Bond;", Cond.methodLink RX4 209 yX4_requireYield, Cond.static yX4_requireYield, Cond.code yX4_requireYield cX4_requireYield 1 none, Cond.classLink RX4 44 "java/lang/IllegalArgumentException", Cond.initialized "java/lang/IllegalArgumentException", Cond.methodLink RX4 215 yX0_worthAt, Cond.instanceMethod yX0_worthAt, Cond.selects RX0 yX0_worthAt yX0_worthAt, Cond.initialized RX0, Cond.code yX0_worthAt cX0_worthAt 14 (some .long), Cond.fieldLink RX0 9 "BondDesk$Bond" "schedule" "LBondDesk$Schedule;", Cond.constantLong RX0 52 (10000), Cond.fieldLink RX0 91 "BondDesk$Schedule" "perYear" "I", Cond.fieldLink RX0 66 "BondDesk$Schedule" "dates" "[I"]
def wsX4_moves_r2 : List Cond := [Cond.constantLong RX0 94 (3650000), Cond.constantLong RX0 99 (3650000000000000), Cond.constantLong RX0 105 (1000000000), Cond.methodLink RX0 19 yX3_firstBehind, Cond.instanceMethod yX3_firstBehind, Cond.selects RX3 yX3_firstBehind yX3_firstBehind, Cond.initialized RX3, Cond.code yX3_firstBehind cX3_firstBehind 3 (some .int), Cond.fieldLink RX3 41 "BondDesk$Schedule" "dates" "[I", Cond.methodLink RX0 34 yX0_isGone, Cond.instanceMethod yX0_isGone, Cond.selects RX0 yX0_isGone yX0_isGone, Cond.code yX0_isGone cX0_isGone 1 (some .boolean), Cond.fieldLink RX0 28 "BondDesk$Bond" "state" "I", Cond.methodLink RX0 96 yX1_daysBetween, Cond.static yX1_daysBetween, Cond.initialized RX1, Cond.code yX1_daysBetween cX1_daysBetween 2 (some .int), Cond.methodLink RX1 31 yX1_dayNumber, Cond.static yX1_dayNumber, Cond.code yX1_dayNumber cX1_dayNumber 5 (some .int), Cond.fieldLink RX1 27 "BondDesk$Dates" "AHEAD" "[I", Cond.methodLink RX0 101 yX0_paymentOn, Cond.instanceMethod yX0_paymentOn]
def wsX4_moves_r3 : List Cond := [Cond.selects RX0 yX0_paymentOn yX0_paymentOn, Cond.code yX0_paymentOn cX0_paymentOn 3 (some .long), Cond.methodLink RX0 54 yX0_faceOf, Cond.static yX0_faceOf, Cond.code yX0_faceOf cX0_faceOf 1 (some .long), Cond.constantLong RX0 50 (100000), Cond.methodLink RX0 82 yX3_couponFor, Cond.instanceMethod yX3_couponFor, Cond.selects RX3 yX3_couponFor yX3_couponFor, Cond.code yX3_couponFor cX3_couponFor 6 (some .long), Cond.fieldLink RX3 29 "BondDesk$Schedule" "regularBegin" "I", Cond.fieldLink RX3 7 "BondDesk$Schedule" "issue" "I", Cond.fieldLink RX3 57 "BondDesk$Schedule" "firstYear" "J", Cond.fieldLink RX3 16 "BondDesk$Schedule" "rate" "I", Cond.fieldLink RX3 49 "BondDesk$Schedule" "firstDays" "J", Cond.constantLong RX3 65 (10000), Cond.fieldLink RX3 19 "BondDesk$Schedule" "perYear" "I", Cond.methodLink RX0 85 yX0_isEnd, Cond.instanceMethod yX0_isEnd, Cond.selects RX0 yX0_isEnd yX0_isEnd, Cond.code yX0_isEnd cX0_isEnd 2 (some .boolean), Cond.methodLink RX0 88 yX0_sunkOn, Cond.instanceMethod yX0_sunkOn, Cond.selects RX0 yX0_sunkOn yX0_sunkOn]
def wsX4_moves_r4 : List Cond := [Cond.code yX0_sunkOn cX0_sunkOn 4 (some .int), Cond.fieldLink RX0 70 "BondDesk$Bond" "sinkFrom" "I", Cond.fieldLink RX0 73 "BondDesk$Bond" "sinkPart" "I", Cond.methodLink RX0 76 Lib.Math.min.name, Cond.static Lib.Math.min.name, Cond.initialized "java/lang/Math", Cond.code Lib.Math.min.name Lib.Math.min.code 2 (some .int)]
def wsX4_moves : List Cond := .code yX4_moves cX4_moves 4 (some .int) :: ((wsX4_moves_r1 ++ (wsX4_moves_r2 ++ (wsX4_moves_r3 ++ wsX4_moves_r4))) ++ wsX40 ++ wsX00 ++ wsX30 ++ (vx_atS RX4 170 "java/lang/IndexOutOfBoundsException" ["java/lang/RuntimeException", "java/lang/Exception"]).filter goodWord ++ (vx_atS RX4 48 "java/lang/IllegalArgumentException" ["java/lang/RuntimeException", "java/lang/Exception"]).filter goodWord)
def wsX4_callsAt_r1 : List Cond := [Cond.methodLink RX4 125 yX4_bondNumbered, Cond.instanceMethod yX4_bondNumbered, Cond.selects RX4 yX4_bondNumbered yX4_bondNumbered, Cond.initialized RX4, Cond.code yX4_bondNumbered cX4_bondNumbered 3 (some (.object "BondDesk$Bond")), Cond.classLink RX4 166 "java/lang/IndexOutOfBoundsException", Cond.initialized "java/lang/IndexOutOfBoundsException", Cond.fieldLink RX4 15 "BondDesk" "bonds" "[LBondDesk$Bond;", Cond.methodLink RX4 226 yX0_rateOfCall, Cond.instanceMethod yX0_rateOfCall, Cond.selects RX0 yX0_rateOfCall yX0_rateOfCall, Cond.initialized RX0, Cond.code yX0_rateOfCall cX0_rateOfCall 3 (some .int), Cond.fieldLink RX0 9 "BondDesk$Bond" "schedule" "LBondDesk$Schedule;", Cond.fieldLink RX0 66 "BondDesk$Schedule" "dates" "[I", Cond.methodLink RX0 34 yX0_isGone, Cond.instanceMethod yX0_isGone, Cond.selects RX0 yX0_isGone yX0_isGone, Cond.code yX0_isGone cX0_isGone 1 (some .boolean), Cond.fieldLink RX0 28 "BondDesk$Bond" "state" "I", Cond.methodLink RX0 127 yX0_firstCall, Cond.instanceMethod yX0_firstCall, Cond.selects RX0 yX0_firstCall yX0_firstCall, Cond.code yX0_firstCall cX0_firstCall 2 (some .int)]
def wsX4_callsAt_r2 : List Cond := [Cond.fieldLink RX0 25 "BondDesk$Bond" "next" "I", Cond.methodLink RX0 124 yX0_isCallDate, Cond.instanceMethod yX0_isCallDate, Cond.selects RX0 yX0_isCallDate yX0_isCallDate, Cond.code yX0_isCallDate cX0_isCallDate 2 (some .boolean), Cond.fieldLink RX0 118 "BondDesk$Bond" "callPrice" "I", Cond.fieldLink RX0 121 "BondDesk$Bond" "callFrom" "I", Cond.methodLink RX0 131 yX0_factorBehind, Cond.instanceMethod yX0_factorBehind, Cond.selects RX0 yX0_factorBehind yX0_factorBehind, Cond.code yX0_factorBehind cX0_factorBehind 4 (some .int), Cond.fieldLink RX0 15 "BondDesk$Bond" "factor" "I", Cond.methodLink RX0 88 yX0_sunkOn, Cond.instanceMethod yX0_sunkOn, Cond.selects RX0 yX0_sunkOn yX0_sunkOn, Cond.code yX0_sunkOn cX0_sunkOn 4 (some .int), Cond.fieldLink RX0 70 "BondDesk$Bond" "sinkFrom" "I", Cond.fieldLink RX0 73 "BondDesk$Bond" "sinkPart" "I", Cond.methodLink RX0 76 Lib.Math.min.name, Cond.static Lib.Math.min.name, Cond.initialized "java/lang/Math", Cond.code Lib.Math.min.name Lib.Math.min.code 2 (some .int), Cond.methodLink RX0 134 yX0_callPayment, Cond.instanceMethod yX0_callPayment]
def wsX4_callsAt_r3 : List Cond := [Cond.selects RX0 yX0_callPayment yX0_callPayment, Cond.code yX0_callPayment cX0_callPayment 2 (some .long), Cond.constantLong RX0 52 (10000), Cond.methodLink RX0 54 yX0_faceOf, Cond.static yX0_faceOf, Cond.code yX0_faceOf cX0_faceOf 1 (some .long), Cond.constantLong RX0 50 (100000), Cond.methodLink RX0 114 yX0_greatestRate, Cond.instanceMethod yX0_greatestRate, Cond.selects RX0 yX0_greatestRate yX0_greatestRate, Cond.code yX0_greatestRate cX0_greatestRate 8 (some .int), Cond.methodLink RX0 107 yX0_worthAt, Cond.instanceMethod yX0_worthAt, Cond.selects RX0 yX0_worthAt yX0_worthAt, Cond.code yX0_worthAt cX0_worthAt 14 (some .long), Cond.fieldLink RX0 91 "BondDesk$Schedule" "perYear" "I", Cond.constantLong RX0 94 (3650000), Cond.constantLong RX0 99 (3650000000000000), Cond.constantLong RX0 105 (1000000000), Cond.methodLink RX0 19 yX3_firstBehind, Cond.instanceMethod yX3_firstBehind, Cond.selects RX3 yX3_firstBehind yX3_firstBehind, Cond.initialized RX3, Cond.code yX3_firstBehind cX3_firstBehind 3 (some .int)]
def wsX4_callsAt_r4 : List Cond := [Cond.fieldLink RX3 41 "BondDesk$Schedule" "dates" "[I", Cond.methodLink RX0 96 yX1_daysBetween, Cond.static yX1_daysBetween, Cond.initialized RX1, Cond.code yX1_daysBetween cX1_daysBetween 2 (some .int), Cond.methodLink RX1 31 yX1_dayNumber, Cond.static yX1_dayNumber, Cond.code yX1_dayNumber cX1_dayNumber 5 (some .int), Cond.fieldLink RX1 27 "BondDesk$Dates" "AHEAD" "[I", Cond.methodLink RX0 101 yX0_paymentOn, Cond.instanceMethod yX0_paymentOn, Cond.selects RX0 yX0_paymentOn yX0_paymentOn, Cond.code yX0_paymentOn cX0_paymentOn 3 (some .long), Cond.methodLink RX0 82 yX3_couponFor, Cond.instanceMethod yX3_couponFor, Cond.selects RX3 yX3_couponFor yX3_couponFor, Cond.code yX3_couponFor cX3_couponFor 6 (some .long), Cond.fieldLink RX3 29 "BondDesk$Schedule" "regularBegin" "I", Cond.fieldLink RX3 7 "BondDesk$Schedule" "issue" "I", Cond.fieldLink RX3 57 "BondDesk$Schedule" "firstYear" "J", Cond.fieldLink RX3 16 "BondDesk$Schedule" "rate" "I", Cond.fieldLink RX3 49 "BondDesk$Schedule" "firstDays" "J", Cond.constantLong RX3 65 (10000), Cond.fieldLink RX3 19 "BondDesk$Schedule" "perYear" "I"]
def wsX4_callsAt_r5 : List Cond := [Cond.methodLink RX0 85 yX0_isEnd, Cond.instanceMethod yX0_isEnd, Cond.selects RX0 yX0_isEnd yX0_isEnd, Cond.code yX0_isEnd cX0_isEnd 2 (some .boolean)]
def wsX4_callsAt : List Cond := .code yX4_callsAt cX4_callsAt 2 (some .int) :: ((wsX4_callsAt_r1 ++ (wsX4_callsAt_r2 ++ (wsX4_callsAt_r3 ++ (wsX4_callsAt_r4 ++ wsX4_callsAt_r5)))) ++ wsX40 ++ wsX00 ++ wsX30 ++ (vx_atS RX4 170 "java/lang/IndexOutOfBoundsException" ["java/lang/RuntimeException", "java/lang/Exception"]).filter goodWord)
def wsX4_requirePieces : List Cond := .code yX4_requirePieces cX4_requirePieces 1 none :: ([.classLink RX4 44 "java/lang/IllegalArgumentException", .initialized "java/lang/IllegalArgumentException"] ++ (vx_atS RX4 48 "java/lang/IllegalArgumentException" ["java/lang/RuntimeException", "java/lang/Exception"]).filter goodWord)
def wsX4_requireWorkingDay_r1 : List Cond := [Cond.classLink RX4 73 "java/lang/IllegalStateException", Cond.initialized "java/lang/IllegalStateException", Cond.fieldLink RX4 27 "BondDesk" "today" "I", Cond.methodLink RX4 51 yX1_dayNumber, Cond.static yX1_dayNumber, Cond.initialized RX1, Cond.code yX1_dayNumber cX1_dayNumber 5 (some .int), Cond.fieldLink RX1 27 "BondDesk$Dates" "AHEAD" "[I", Cond.methodLink RX4 89 yX4_isWorkingDay, Cond.instanceMethod yX4_isWorkingDay, Cond.selects RX4 yX4_isWorkingDay yX4_isWorkingDay, Cond.initialized RX4, Cond.code yX4_isWorkingDay cX4_isWorkingDay 2 (some .boolean), Cond.methodLink RX4 63 yX1_dayOfWeek, Cond.static yX1_dayOfWeek, Cond.code yX1_dayOfWeek cX1_dayOfWeek 1 (some .int), Cond.methodLink RX4 60 yX1_dateOf, Cond.static yX1_dateOf, Cond.code yX1_dateOf cX1_dateOf 5 (some .int), Cond.methodLink RX1 23 yX1_monthLength, Cond.static yX1_monthLength, Cond.code yX1_monthLength cX1_monthLength 2 (some .int), Cond.methodLink RX4 66 yX4_isHoliday, Cond.instanceMethod yX4_isHoliday]
def wsX4_requireWorkingDay_r2 : List Cond := [Cond.selects RX4 yX4_isHoliday yX4_isHoliday, Cond.code yX4_isHoliday cX4_isHoliday 6 (some .boolean), Cond.fieldLink RX4 9 "BondDesk" "holidays" "[I"]
def wsX4_requireWorkingDay : List Cond := .code yX4_requireWorkingDay cX4_requireWorkingDay 1 none :: ((wsX4_requireWorkingDay_r1 ++ wsX4_requireWorkingDay_r2) ++ wsX40 ++ (vx_atS RX4 77 "java/lang/IllegalStateException" ["java/lang/RuntimeException", "java/lang/Exception"]).filter goodWord)
def wsX4_buy_r1 : List Cond := [Cond.classLink RX4 73 "java/lang/IllegalStateException", Cond.initialized "java/lang/IllegalStateException", Cond.fieldLink RX4 27 "BondDesk" "today" "I", Cond.fieldLink RX4 244 "BondDesk$Bond" "pieces" "I", Cond.fieldLink RX4 33 "BondDesk" "cash" "J", Cond.methodLink RX4 125 yX4_bondNumbered, Cond.instanceMethod yX4_bondNumbered, Cond.selects RX4 yX4_bondNumbered yX4_bondNumbered, Cond.initialized RX4, Cond.code yX4_bondNumbered cX4_bondNumbered 3 (some (.object "BondDesk$Bond")), Cond.classLink RX4 166 "java/lang/IndexOutOfBoundsException", Cond.initialized "java/lang/IndexOutOfBoundsException", Cond.fieldLink RX4 15 "BondDesk" "bonds" "[LBondDesk$Bond;", Cond.methodLink RX4 233 yX4_requirePieces, Cond.static yX4_requirePieces, Cond.code yX4_requirePieces cX4_requirePieces 1 none, Cond.classLink RX4 44 "java/lang/IllegalArgumentException", Cond.initialized "java/lang/IllegalArgumentException", Cond.methodLink RX4 219 yX4_requirePrice, Cond.static yX4_requirePrice, Cond.code yX4_requirePrice cX4_requirePrice 1 none, Cond.methodLink RX4 236 yX4_requireWorkingDay, Cond.instanceMethod yX4_requireWorkingDay, Cond.selects RX4 yX4_requireWorkingDay yX4_requireWorkingDay]
def wsX4_buy_r2 : List Cond := [Cond.code yX4_requireWorkingDay cX4_requireWorkingDay 1 none, Cond.methodLink RX4 51 yX1_dayNumber, Cond.static yX1_dayNumber, Cond.initialized RX1, Cond.code yX1_dayNumber cX1_dayNumber 5 (some .int), Cond.fieldLink RX1 27 "BondDesk$Dates" "AHEAD" "[I", Cond.methodLink RX4 89 yX4_isWorkingDay, Cond.instanceMethod yX4_isWorkingDay, Cond.selects RX4 yX4_isWorkingDay yX4_isWorkingDay, Cond.code yX4_isWorkingDay cX4_isWorkingDay 2 (some .boolean), Cond.methodLink RX4 63 yX1_dayOfWeek, Cond.static yX1_dayOfWeek, Cond.code yX1_dayOfWeek cX1_dayOfWeek 1 (some .int), Cond.methodLink RX4 60 yX1_dateOf, Cond.static yX1_dateOf, Cond.code yX1_dateOf cX1_dateOf 5 (some .int), Cond.methodLink RX1 23 yX1_monthLength, Cond.static yX1_monthLength, Cond.code yX1_monthLength cX1_monthLength 2 (some .int), Cond.methodLink RX4 66 yX4_isHoliday, Cond.instanceMethod yX4_isHoliday, Cond.selects RX4 yX4_isHoliday yX4_isHoliday, Cond.code yX4_isHoliday cX4_isHoliday 6 (some .boolean), Cond.fieldLink RX4 9 "BondDesk" "holidays" "[I"]
def wsX4_buy_r3 : List Cond := [Cond.methodLink RX4 131 yX4_requireThere, Cond.static yX4_requireThere, Cond.code yX4_requireThere cX4_requireThere 1 none, Cond.methodLink RX4 201 yX0_isGone, Cond.instanceMethod yX0_isGone, Cond.selects RX0 yX0_isGone yX0_isGone, Cond.initialized RX0, Cond.code yX0_isGone cX0_isGone 1 (some .boolean), Cond.fieldLink RX0 28 "BondDesk$Bond" "state" "I", Cond.methodLink RX4 239 yX0_isIssued, Cond.instanceMethod yX0_isIssued, Cond.selects RX0 yX0_isIssued yX0_isIssued, Cond.code yX0_isIssued cX0_isIssued 2 (some .boolean), Cond.fieldLink RX0 9 "BondDesk$Bond" "schedule" "LBondDesk$Schedule;", Cond.fieldLink RX0 31 "BondDesk$Schedule" "issue" "I", Cond.methodLink RX4 249 yX0_fullPrice, Cond.instanceMethod yX0_fullPrice, Cond.selects RX0 yX0_fullPrice yX0_fullPrice, Cond.code yX0_fullPrice cX0_fullPrice 3 (some .long), Cond.constantLong RX0 52 (10000), Cond.methodLink RX0 58 yX0_face, Cond.instanceMethod yX0_face, Cond.selects RX0 yX0_face yX0_face, Cond.code yX0_face cX0_face 1 (some .long)]
def wsX4_buy_r4 : List Cond := [Cond.fieldLink RX0 15 "BondDesk$Bond" "factor" "I", Cond.methodLink RX0 54 yX0_faceOf, Cond.static yX0_faceOf, Cond.code yX0_faceOf cX0_faceOf 1 (some .long), Cond.constantLong RX0 50 (100000), Cond.methodLink RX0 62 yX3_accruedFor, Cond.instanceMethod yX3_accruedFor, Cond.selects RX3 yX3_accruedFor yX3_accruedFor, Cond.initialized RX3, Cond.code yX3_accruedFor cX3_accruedFor 7 (some .long), Cond.fieldLink RX3 7 "BondDesk$Schedule" "issue" "I", Cond.fieldLink RX3 41 "BondDesk$Schedule" "dates" "[I", Cond.fieldLink RX3 16 "BondDesk$Schedule" "rate" "I", Cond.methodLink RX3 67 yX3_firstBehind, Cond.instanceMethod yX3_firstBehind, Cond.selects RX3 yX3_firstBehind yX3_firstBehind, Cond.code yX3_firstBehind cX3_firstBehind 3 (some .int), Cond.methodLink RX3 53 yX3_yearOfPeriod, Cond.instanceMethod yX3_yearOfPeriod, Cond.selects RX3 yX3_yearOfPeriod yX3_yearOfPeriod, Cond.code yX3_yearOfPeriod cX3_yearOfPeriod 3 (some .long), Cond.fieldLink RX3 22 "BondDesk$Schedule" "way" "I", Cond.constantLong RX3 80 (3650000), Cond.constantLong RX3 82 (3600000)]
def wsX4_buy_r5 : List Cond := [Cond.fieldLink RX3 29 "BondDesk$Schedule" "regularBegin" "I", Cond.constantLong RX3 65 (10000), Cond.fieldLink RX3 19 "BondDesk$Schedule" "perYear" "I", Cond.methodLink RX3 77 yX1_daysBetween, Cond.static yX1_daysBetween, Cond.code yX1_daysBetween cX1_daysBetween 2 (some .int), Cond.methodLink RX1 31 yX1_dayNumber, Cond.methodLink RX3 71 yX3_beginOf, Cond.instanceMethod yX3_beginOf, Cond.selects RX3 yX3_beginOf yX3_beginOf, Cond.code yX3_beginOf cX3_beginOf 2 (some .int), Cond.methodLink RX3 45 yX3_daysCounted, Cond.instanceMethod yX3_daysCounted, Cond.selects RX3 yX3_daysCounted yX3_daysCounted, Cond.code yX3_daysCounted cX3_daysCounted 3 (some .long), Cond.methodLink RX3 74 yX1_daysOf30, Cond.static yX1_daysOf30, Cond.code yX1_daysOf30 cX1_daysOf30 4 (some .int), Cond.methodLink RX1 34 Lib.Math.min.name, Cond.static Lib.Math.min.name, Cond.initialized "java/lang/Math", Cond.code Lib.Math.min.name Lib.Math.min.code 2 (some .int), Cond.methodLink RX1 17 yX1_dayOf, Cond.static yX1_dayOf]
def wsX4_buy_r6 : List Cond := [Cond.code yX1_dayOf cX1_dayOf 1 (some .int), Cond.methodLink RX1 20 yX1_yearOf, Cond.static yX1_yearOf, Cond.code yX1_yearOf cX1_yearOf 1 (some .int), Cond.methodLink RX1 13 yX1_monthOf, Cond.static yX1_monthOf, Cond.code yX1_monthOf cX1_monthOf 1 (some .int)]
def wsX4_buy : List Cond := .code yX4_buy cX4_buy 7 (some .long) :: ((wsX4_buy_r1 ++ (wsX4_buy_r2 ++ (wsX4_buy_r3 ++ (wsX4_buy_r4 ++ (wsX4_buy_r5 ++ wsX4_buy_r6))))) ++ wsX40 ++ wsX00 ++ wsX30 ++ (vx_atS RX4 77 "java/lang/IllegalStateException" ["java/lang/RuntimeException", "java/lang/Exception"]).filter goodWord ++ (vx_atS RX4 170 "java/lang/IndexOutOfBoundsException" ["java/lang/RuntimeException", "java/lang/Exception"]).filter goodWord ++ (vx_atS RX4 48 "java/lang/IllegalArgumentException" ["java/lang/RuntimeException", "java/lang/Exception"]).filter goodWord)
def wsX4_sell_r1 : List Cond := [Cond.classLink RX4 73 "java/lang/IllegalStateException", Cond.initialized "java/lang/IllegalStateException", Cond.fieldLink RX4 244 "BondDesk$Bond" "pieces" "I", Cond.fieldLink RX4 27 "BondDesk" "today" "I", Cond.fieldLink RX4 33 "BondDesk" "cash" "J", Cond.methodLink RX4 125 yX4_bondNumbered, Cond.instanceMethod yX4_bondNumbered, Cond.selects RX4 yX4_bondNumbered yX4_bondNumbered, Cond.initialized RX4, Cond.code yX4_bondNumbered cX4_bondNumbered 3 (some (.object "BondDesk$Bond")), Cond.classLink RX4 166 "java/lang/IndexOutOfBoundsException", Cond.initialized "java/lang/IndexOutOfBoundsException", Cond.fieldLink RX4 15 "BondDesk" "bonds" "[LBondDesk$Bond;", Cond.methodLink RX4 233 yX4_requirePieces, Cond.static yX4_requirePieces, Cond.code yX4_requirePieces cX4_requirePieces 1 none, Cond.classLink RX4 44 "java/lang/IllegalArgumentException", Cond.initialized "java/lang/IllegalArgumentException", Cond.methodLink RX4 219 yX4_requirePrice, Cond.static yX4_requirePrice, Cond.code yX4_requirePrice cX4_requirePrice 1 none, Cond.methodLink RX4 236 yX4_requireWorkingDay, Cond.instanceMethod yX4_requireWorkingDay, Cond.selects RX4 yX4_requireWorkingDay yX4_requireWorkingDay]
def wsX4_sell_r2 : List Cond := [Cond.code yX4_requireWorkingDay cX4_requireWorkingDay 1 none, Cond.methodLink RX4 51 yX1_dayNumber, Cond.static yX1_dayNumber, Cond.initialized RX1, Cond.code yX1_dayNumber cX1_dayNumber 5 (some .int), Cond.fieldLink RX1 27 "BondDesk$Dates" "AHEAD" "[I", Cond.methodLink RX4 89 yX4_isWorkingDay, Cond.instanceMethod yX4_isWorkingDay, Cond.selects RX4 yX4_isWorkingDay yX4_isWorkingDay, Cond.code yX4_isWorkingDay cX4_isWorkingDay 2 (some .boolean), Cond.methodLink RX4 63 yX1_dayOfWeek, Cond.static yX1_dayOfWeek, Cond.code yX1_dayOfWeek cX1_dayOfWeek 1 (some .int), Cond.methodLink RX4 60 yX1_dateOf, Cond.static yX1_dateOf, Cond.code yX1_dateOf cX1_dateOf 5 (some .int), Cond.methodLink RX1 23 yX1_monthLength, Cond.static yX1_monthLength, Cond.code yX1_monthLength cX1_monthLength 2 (some .int), Cond.methodLink RX4 66 yX4_isHoliday, Cond.instanceMethod yX4_isHoliday, Cond.selects RX4 yX4_isHoliday yX4_isHoliday, Cond.code yX4_isHoliday cX4_isHoliday 6 (some .boolean), Cond.fieldLink RX4 9 "BondDesk" "holidays" "[I"]
def wsX4_sell_r3 : List Cond := [Cond.methodLink RX4 249 yX0_fullPrice, Cond.instanceMethod yX0_fullPrice, Cond.selects RX0 yX0_fullPrice yX0_fullPrice, Cond.initialized RX0, Cond.code yX0_fullPrice cX0_fullPrice 3 (some .long), Cond.constantLong RX0 52 (10000), Cond.fieldLink RX0 9 "BondDesk$Bond" "schedule" "LBondDesk$Schedule;", Cond.methodLink RX0 58 yX0_face, Cond.instanceMethod yX0_face, Cond.selects RX0 yX0_face yX0_face, Cond.code yX0_face cX0_face 1 (some .long), Cond.fieldLink RX0 15 "BondDesk$Bond" "factor" "I", Cond.methodLink RX0 54 yX0_faceOf, Cond.static yX0_faceOf, Cond.code yX0_faceOf cX0_faceOf 1 (some .long), Cond.constantLong RX0 50 (100000), Cond.methodLink RX0 62 yX3_accruedFor, Cond.instanceMethod yX3_accruedFor, Cond.selects RX3 yX3_accruedFor yX3_accruedFor, Cond.initialized RX3, Cond.code yX3_accruedFor cX3_accruedFor 7 (some .long), Cond.fieldLink RX3 7 "BondDesk$Schedule" "issue" "I", Cond.fieldLink RX3 41 "BondDesk$Schedule" "dates" "[I", Cond.fieldLink RX3 16 "BondDesk$Schedule" "rate" "I"]
def wsX4_sell_r4 : List Cond := [Cond.methodLink RX3 67 yX3_firstBehind, Cond.instanceMethod yX3_firstBehind, Cond.selects RX3 yX3_firstBehind yX3_firstBehind, Cond.code yX3_firstBehind cX3_firstBehind 3 (some .int), Cond.methodLink RX3 53 yX3_yearOfPeriod, Cond.instanceMethod yX3_yearOfPeriod, Cond.selects RX3 yX3_yearOfPeriod yX3_yearOfPeriod, Cond.code yX3_yearOfPeriod cX3_yearOfPeriod 3 (some .long), Cond.fieldLink RX3 22 "BondDesk$Schedule" "way" "I", Cond.constantLong RX3 80 (3650000), Cond.constantLong RX3 82 (3600000), Cond.fieldLink RX3 29 "BondDesk$Schedule" "regularBegin" "I", Cond.constantLong RX3 65 (10000), Cond.fieldLink RX3 19 "BondDesk$Schedule" "perYear" "I", Cond.methodLink RX3 77 yX1_daysBetween, Cond.static yX1_daysBetween, Cond.code yX1_daysBetween cX1_daysBetween 2 (some .int), Cond.methodLink RX1 31 yX1_dayNumber, Cond.methodLink RX3 71 yX3_beginOf, Cond.instanceMethod yX3_beginOf, Cond.selects RX3 yX3_beginOf yX3_beginOf, Cond.code yX3_beginOf cX3_beginOf 2 (some .int), Cond.methodLink RX3 45 yX3_daysCounted, Cond.instanceMethod yX3_daysCounted]
def wsX4_sell_r5 : List Cond := [Cond.selects RX3 yX3_daysCounted yX3_daysCounted, Cond.code yX3_daysCounted cX3_daysCounted 3 (some .long), Cond.methodLink RX3 74 yX1_daysOf30, Cond.static yX1_daysOf30, Cond.code yX1_daysOf30 cX1_daysOf30 4 (some .int), Cond.methodLink RX1 34 Lib.Math.min.name, Cond.static Lib.Math.min.name, Cond.initialized "java/lang/Math", Cond.code Lib.Math.min.name Lib.Math.min.code 2 (some .int), Cond.methodLink RX1 17 yX1_dayOf, Cond.static yX1_dayOf, Cond.code yX1_dayOf cX1_dayOf 1 (some .int), Cond.methodLink RX1 20 yX1_yearOf, Cond.static yX1_yearOf, Cond.code yX1_yearOf cX1_yearOf 1 (some .int), Cond.methodLink RX1 13 yX1_monthOf, Cond.static yX1_monthOf, Cond.code yX1_monthOf cX1_monthOf 1 (some .int)]
def wsX4_sell : List Cond := .code yX4_sell cX4_sell 7 (some .long) :: ((wsX4_sell_r1 ++ (wsX4_sell_r2 ++ (wsX4_sell_r3 ++ (wsX4_sell_r4 ++ wsX4_sell_r5)))) ++ wsX00 ++ wsX40 ++ wsX30 ++ (vx_atS RX4 77 "java/lang/IllegalStateException" ["java/lang/RuntimeException", "java/lang/Exception"]).filter goodWord ++ (vx_atS RX4 170 "java/lang/IndexOutOfBoundsException" ["java/lang/RuntimeException", "java/lang/Exception"]).filter goodWord ++ (vx_atS RX4 48 "java/lang/IllegalArgumentException" ["java/lang/RuntimeException", "java/lang/Exception"]).filter goodWord)
def wsX4_lookAtBonds_r1 : List Cond := [Cond.fieldLink RX4 15 "BondDesk" "bonds" "[LBondDesk$Bond;", Cond.fieldLink RX4 27 "BondDesk" "today" "I", Cond.fieldLink RX4 37 "BondDesk" "refinancing" "I", Cond.fieldLink RX4 22 "BondDesk" "paid" "LBondDesk$Ledger;", Cond.methodLink RX4 316 yX0_lookUpTo, Cond.instanceMethod yX0_lookUpTo, Cond.selects RX0 yX0_lookUpTo yX0_lookUpTo, Cond.initialized RX0, Cond.code yX0_lookUpTo cX0_lookUpTo 5 none, Cond.fieldLink RX0 25 "BondDesk$Bond" "next" "I", Cond.fieldLink RX0 9 "BondDesk$Bond" "schedule" "LBondDesk$Schedule;", Cond.fieldLink RX0 66 "BondDesk$Schedule" "dates" "[I", Cond.methodLink RX0 34 yX0_isGone, Cond.instanceMethod yX0_isGone, Cond.selects RX0 yX0_isGone yX0_isGone, Cond.code yX0_isGone cX0_isGone 1 (some .boolean), Cond.fieldLink RX0 28 "BondDesk$Bond" "state" "I", Cond.methodLink RX0 137 yX0_lookAt, Cond.instanceMethod yX0_lookAt, Cond.selects RX0 yX0_lookAt yX0_lookAt, Cond.code yX0_lookAt cX0_lookAt 5 none, Cond.fieldLink RX0 141 "BondDesk$Ledger" "coupons" "J", Cond.fieldLink RX0 147 "BondDesk$Bond" "pieces" "I", Cond.fieldLink RX0 150 "BondDesk$Ledger" "ends" "J"]
def wsX4_lookAtBonds_r2 : List Cond := [Cond.fieldLink RX0 15 "BondDesk$Bond" "factor" "I", Cond.fieldLink RX0 157 "BondDesk$Ledger" "sinking" "J", Cond.fieldLink RX0 160 "BondDesk$Ledger" "calls" "J", Cond.methodLink RX0 58 yX0_face, Cond.instanceMethod yX0_face, Cond.selects RX0 yX0_face yX0_face, Cond.code yX0_face cX0_face 1 (some .long), Cond.methodLink RX0 54 yX0_faceOf, Cond.static yX0_faceOf, Cond.code yX0_faceOf cX0_faceOf 1 (some .long), Cond.constantLong RX0 50 (100000), Cond.constantLong RX0 52 (10000), Cond.methodLink RX0 82 yX3_couponFor, Cond.instanceMethod yX3_couponFor, Cond.selects RX3 yX3_couponFor yX3_couponFor, Cond.initialized RX3, Cond.code yX3_couponFor cX3_couponFor 6 (some .long), Cond.fieldLink RX3 29 "BondDesk$Schedule" "regularBegin" "I", Cond.fieldLink RX3 7 "BondDesk$Schedule" "issue" "I", Cond.fieldLink RX3 57 "BondDesk$Schedule" "firstYear" "J", Cond.fieldLink RX3 16 "BondDesk$Schedule" "rate" "I", Cond.fieldLink RX3 49 "BondDesk$Schedule" "firstDays" "J", Cond.constantLong RX3 65 (10000), Cond.fieldLink RX3 19 "BondDesk$Schedule" "perYear" "I"]
def wsX4_lookAtBonds_r3 : List Cond := [Cond.methodLink RX0 85 yX0_isEnd, Cond.instanceMethod yX0_isEnd, Cond.selects RX0 yX0_isEnd yX0_isEnd, Cond.code yX0_isEnd cX0_isEnd 2 (some .boolean), Cond.methodLink RX0 153 yX0_leave, Cond.instanceMethod yX0_leave, Cond.selects RX0 yX0_leave yX0_leave, Cond.code yX0_leave cX0_leave 2 none, Cond.methodLink RX0 88 yX0_sunkOn, Cond.instanceMethod yX0_sunkOn, Cond.selects RX0 yX0_sunkOn yX0_sunkOn, Cond.code yX0_sunkOn cX0_sunkOn 4 (some .int), Cond.fieldLink RX0 70 "BondDesk$Bond" "sinkFrom" "I", Cond.fieldLink RX0 73 "BondDesk$Bond" "sinkPart" "I", Cond.methodLink RX0 76 Lib.Math.min.name, Cond.static Lib.Math.min.name, Cond.initialized "java/lang/Math", Cond.code Lib.Math.min.name Lib.Math.min.code 2 (some .int), Cond.methodLink RX0 124 yX0_isCallDate, Cond.instanceMethod yX0_isCallDate, Cond.selects RX0 yX0_isCallDate yX0_isCallDate, Cond.code yX0_isCallDate cX0_isCallDate 2 (some .boolean), Cond.fieldLink RX0 118 "BondDesk$Bond" "callPrice" "I", Cond.fieldLink RX0 121 "BondDesk$Bond" "callFrom" "I"]
def wsX4_lookAtBonds_r4 : List Cond := [Cond.methodLink RX0 107 yX0_worthAt, Cond.instanceMethod yX0_worthAt, Cond.selects RX0 yX0_worthAt yX0_worthAt, Cond.code yX0_worthAt cX0_worthAt 14 (some .long), Cond.fieldLink RX0 91 "BondDesk$Schedule" "perYear" "I", Cond.constantLong RX0 94 (3650000), Cond.constantLong RX0 99 (3650000000000000), Cond.constantLong RX0 105 (1000000000), Cond.methodLink RX0 19 yX3_firstBehind, Cond.instanceMethod yX3_firstBehind, Cond.selects RX3 yX3_firstBehind yX3_firstBehind, Cond.code yX3_firstBehind cX3_firstBehind 3 (some .int), Cond.fieldLink RX3 41 "BondDesk$Schedule" "dates" "[I", Cond.methodLink RX0 96 yX1_daysBetween, Cond.static yX1_daysBetween, Cond.initialized RX1, Cond.code yX1_daysBetween cX1_daysBetween 2 (some .int), Cond.methodLink RX1 31 yX1_dayNumber, Cond.static yX1_dayNumber, Cond.code yX1_dayNumber cX1_dayNumber 5 (some .int), Cond.fieldLink RX1 27 "BondDesk$Dates" "AHEAD" "[I", Cond.methodLink RX0 101 yX0_paymentOn, Cond.instanceMethod yX0_paymentOn, Cond.selects RX0 yX0_paymentOn yX0_paymentOn]
def wsX4_lookAtBonds_r5 : List Cond := [Cond.code yX0_paymentOn cX0_paymentOn 3 (some .long), Cond.methodLink RX0 134 yX0_callPayment, Cond.instanceMethod yX0_callPayment, Cond.selects RX0 yX0_callPayment yX0_callPayment, Cond.code yX0_callPayment cX0_callPayment 2 (some .long)]
def wsX4_lookAtBonds : List Cond := .code yX4_lookAtBonds cX4_lookAtBonds 5 none :: ((wsX4_lookAtBonds_r1 ++ (wsX4_lookAtBonds_r2 ++ (wsX4_lookAtBonds_r3 ++ (wsX4_lookAtBonds_r4 ++ wsX4_lookAtBonds_r5)))) ++ wsX40 ++ wsX00 ++ wsX30 ++ wsX20)
def wsX4_pass_r1 : List Cond := [Cond.classLink RX4 44 "java/lang/IllegalArgumentException", Cond.initialized "java/lang/IllegalArgumentException", Cond.classLink RX4 73 "java/lang/IllegalStateException", Cond.initialized "java/lang/IllegalStateException", Cond.fieldLink RX4 27 "BondDesk" "today" "I", Cond.constant RX4 78 (20661101), Cond.fieldLink RX4 22 "BondDesk" "paid" "LBondDesk$Ledger;", Cond.fieldLink RX4 33 "BondDesk" "cash" "J", Cond.methodLink RX4 51 yX1_dayNumber, Cond.static yX1_dayNumber, Cond.initialized RX1, Cond.code yX1_dayNumber cX1_dayNumber 5 (some .int), Cond.fieldLink RX1 27 "BondDesk$Dates" "AHEAD" "[I", Cond.methodLink RX4 261 yX2_all, Cond.instanceMethod yX2_all, Cond.selects RX2 yX2_all yX2_all, Cond.initialized RX2, Cond.code yX2_all cX2_all 1 (some .long), Cond.fieldLink RX2 7 "BondDesk$Ledger" "coupons" "J", Cond.fieldLink RX2 13 "BondDesk$Ledger" "sinking" "J", Cond.fieldLink RX2 16 "BondDesk$Ledger" "calls" "J", Cond.fieldLink RX2 19 "BondDesk$Ledger" "ends" "J", Cond.methodLink RX4 60 yX1_dateOf, Cond.static yX1_dateOf]
def wsX4_pass_r2 : List Cond := [Cond.code yX1_dateOf cX1_dateOf 5 (some .int), Cond.methodLink RX1 23 yX1_monthLength, Cond.static yX1_monthLength, Cond.code yX1_monthLength cX1_monthLength 2 (some .int), Cond.methodLink RX4 89 yX4_isWorkingDay, Cond.instanceMethod yX4_isWorkingDay, Cond.selects RX4 yX4_isWorkingDay yX4_isWorkingDay, Cond.initialized RX4, Cond.code yX4_isWorkingDay cX4_isWorkingDay 2 (some .boolean), Cond.methodLink RX4 63 yX1_dayOfWeek, Cond.static yX1_dayOfWeek, Cond.code yX1_dayOfWeek cX1_dayOfWeek 1 (some .int), Cond.methodLink RX4 66 yX4_isHoliday, Cond.instanceMethod yX4_isHoliday, Cond.selects RX4 yX4_isHoliday yX4_isHoliday, Cond.code yX4_isHoliday cX4_isHoliday 6 (some .boolean), Cond.fieldLink RX4 9 "BondDesk" "holidays" "[I", Cond.methodLink RX4 265 yX4_lookAtBonds, Cond.instanceMethod yX4_lookAtBonds, Cond.selects RX4 yX4_lookAtBonds yX4_lookAtBonds, Cond.code yX4_lookAtBonds cX4_lookAtBonds 5 none, Cond.fieldLink RX4 15 "BondDesk" "bonds" "[LBondDesk$Bond;", Cond.fieldLink RX4 37 "BondDesk" "refinancing" "I", Cond.methodLink RX4 316 yX0_lookUpTo]
def wsX4_pass_r3 : List Cond := [Cond.instanceMethod yX0_lookUpTo, Cond.selects RX0 yX0_lookUpTo yX0_lookUpTo, Cond.initialized RX0, Cond.code yX0_lookUpTo cX0_lookUpTo 5 none, Cond.fieldLink RX0 25 "BondDesk$Bond" "next" "I", Cond.fieldLink RX0 9 "BondDesk$Bond" "schedule" "LBondDesk$Schedule;", Cond.fieldLink RX0 66 "BondDesk$Schedule" "dates" "[I", Cond.methodLink RX0 34 yX0_isGone, Cond.instanceMethod yX0_isGone, Cond.selects RX0 yX0_isGone yX0_isGone, Cond.code yX0_isGone cX0_isGone 1 (some .boolean), Cond.fieldLink RX0 28 "BondDesk$Bond" "state" "I", Cond.methodLink RX0 137 yX0_lookAt, Cond.instanceMethod yX0_lookAt, Cond.selects RX0 yX0_lookAt yX0_lookAt, Cond.code yX0_lookAt cX0_lookAt 5 none, Cond.fieldLink RX0 141 "BondDesk$Ledger" "coupons" "J", Cond.fieldLink RX0 147 "BondDesk$Bond" "pieces" "I", Cond.fieldLink RX0 150 "BondDesk$Ledger" "ends" "J", Cond.fieldLink RX0 15 "BondDesk$Bond" "factor" "I", Cond.fieldLink RX0 157 "BondDesk$Ledger" "sinking" "J", Cond.fieldLink RX0 160 "BondDesk$Ledger" "calls" "J", Cond.methodLink RX0 58 yX0_face, Cond.instanceMethod yX0_face]
def wsX4_pass_r4 : List Cond := [Cond.selects RX0 yX0_face yX0_face, Cond.code yX0_face cX0_face 1 (some .long), Cond.methodLink RX0 54 yX0_faceOf, Cond.static yX0_faceOf, Cond.code yX0_faceOf cX0_faceOf 1 (some .long), Cond.constantLong RX0 50 (100000), Cond.constantLong RX0 52 (10000), Cond.methodLink RX0 82 yX3_couponFor, Cond.instanceMethod yX3_couponFor, Cond.selects RX3 yX3_couponFor yX3_couponFor, Cond.initialized RX3, Cond.code yX3_couponFor cX3_couponFor 6 (some .long), Cond.fieldLink RX3 29 "BondDesk$Schedule" "regularBegin" "I", Cond.fieldLink RX3 7 "BondDesk$Schedule" "issue" "I", Cond.fieldLink RX3 57 "BondDesk$Schedule" "firstYear" "J", Cond.fieldLink RX3 16 "BondDesk$Schedule" "rate" "I", Cond.fieldLink RX3 49 "BondDesk$Schedule" "firstDays" "J", Cond.constantLong RX3 65 (10000), Cond.fieldLink RX3 19 "BondDesk$Schedule" "perYear" "I", Cond.methodLink RX0 85 yX0_isEnd, Cond.instanceMethod yX0_isEnd, Cond.selects RX0 yX0_isEnd yX0_isEnd, Cond.code yX0_isEnd cX0_isEnd 2 (some .boolean), Cond.methodLink RX0 153 yX0_leave]
def wsX4_pass_r5 : List Cond := [Cond.instanceMethod yX0_leave, Cond.selects RX0 yX0_leave yX0_leave, Cond.code yX0_leave cX0_leave 2 none, Cond.methodLink RX0 88 yX0_sunkOn, Cond.instanceMethod yX0_sunkOn, Cond.selects RX0 yX0_sunkOn yX0_sunkOn, Cond.code yX0_sunkOn cX0_sunkOn 4 (some .int), Cond.fieldLink RX0 70 "BondDesk$Bond" "sinkFrom" "I", Cond.fieldLink RX0 73 "BondDesk$Bond" "sinkPart" "I", Cond.methodLink RX0 76 Lib.Math.min.name, Cond.static Lib.Math.min.name, Cond.initialized "java/lang/Math", Cond.code Lib.Math.min.name Lib.Math.min.code 2 (some .int), Cond.methodLink RX0 124 yX0_isCallDate, Cond.instanceMethod yX0_isCallDate, Cond.selects RX0 yX0_isCallDate yX0_isCallDate, Cond.code yX0_isCallDate cX0_isCallDate 2 (some .boolean), Cond.fieldLink RX0 118 "BondDesk$Bond" "callPrice" "I", Cond.fieldLink RX0 121 "BondDesk$Bond" "callFrom" "I", Cond.methodLink RX0 107 yX0_worthAt, Cond.instanceMethod yX0_worthAt, Cond.selects RX0 yX0_worthAt yX0_worthAt, Cond.code yX0_worthAt cX0_worthAt 14 (some .long), Cond.fieldLink RX0 91 "BondDesk$Schedule" "perYear" "I"]
def wsX4_pass_r6 : List Cond := [Cond.constantLong RX0 94 (3650000), Cond.constantLong RX0 99 (3650000000000000), Cond.constantLong RX0 105 (1000000000), Cond.methodLink RX0 19 yX3_firstBehind, Cond.instanceMethod yX3_firstBehind, Cond.selects RX3 yX3_firstBehind yX3_firstBehind, Cond.code yX3_firstBehind cX3_firstBehind 3 (some .int), Cond.fieldLink RX3 41 "BondDesk$Schedule" "dates" "[I", Cond.methodLink RX0 96 yX1_daysBetween, Cond.static yX1_daysBetween, Cond.code yX1_daysBetween cX1_daysBetween 2 (some .int), Cond.methodLink RX1 31 yX1_dayNumber, Cond.methodLink RX0 101 yX0_paymentOn, Cond.instanceMethod yX0_paymentOn, Cond.selects RX0 yX0_paymentOn yX0_paymentOn, Cond.code yX0_paymentOn cX0_paymentOn 3 (some .long), Cond.methodLink RX0 134 yX0_callPayment, Cond.instanceMethod yX0_callPayment, Cond.selects RX0 yX0_callPayment yX0_callPayment, Cond.code yX0_callPayment cX0_callPayment 2 (some .long)]
def wsX4_pass : List Cond := .code yX4_pass cX4_pass 7 (some .long) :: ((wsX4_pass_r1 ++ (wsX4_pass_r2 ++ (wsX4_pass_r3 ++ (wsX4_pass_r4 ++ (wsX4_pass_r5 ++ wsX4_pass_r6))))) ++ wsX40 ++ wsX20 ++ wsX00 ++ wsX30 ++ (vx_atS RX4 48 "java/lang/IllegalArgumentException" ["java/lang/RuntimeException", "java/lang/Exception"]).filter goodWord ++ (vx_atS RX4 77 "java/lang/IllegalStateException" ["java/lang/RuntimeException", "java/lang/Exception"]).filter goodWord)
def wsX4_bondsThere : List Cond := .code yX4_bondsThere cX4_bondsThere 6 (some .int) :: ([.fieldLink RX4 15 "BondDesk" "bonds" "[LBondDesk$Bond;", .methodLink RX4 201 yX0_isGone, .instanceMethod yX0_isGone, .selects RX0 yX0_isGone yX0_isGone, .initialized RX0, .code yX0_isGone cX0_isGone 1 (some .boolean), .fieldLink RX0 28 "BondDesk$Bond" "state" "I"] ++ wsX40 ++ wsX00)
def wsX4_piecesHeld : List Cond := .code yX4_piecesHeld cX4_piecesHeld 6 (some .int) :: ([.fieldLink RX4 15 "BondDesk" "bonds" "[LBondDesk$Bond;", .fieldLink RX4 244 "BondDesk$Bond" "pieces" "I"] ++ wsX40 ++ wsX00)
def wsX4_worthHeld_r1 : List Cond := [Cond.fieldLink RX4 15 "BondDesk" "bonds" "[LBondDesk$Bond;", Cond.fieldLink RX4 244 "BondDesk$Bond" "pieces" "I", Cond.fieldLink RX4 27 "BondDesk" "today" "I", Cond.fieldLink RX4 212 "BondDesk$Bond" "factor" "I", Cond.fieldLink RX4 37 "BondDesk" "refinancing" "I", Cond.methodLink RX4 215 yX0_worthAt, Cond.instanceMethod yX0_worthAt, Cond.selects RX0 yX0_worthAt yX0_worthAt, Cond.initialized RX0, Cond.code yX0_worthAt cX0_worthAt 14 (some .long), Cond.fieldLink RX0 9 "BondDesk$Bond" "schedule" "LBondDesk$Schedule;", Cond.constantLong RX0 52 (10000), Cond.fieldLink RX0 91 "BondDesk$Schedule" "perYear" "I", Cond.fieldLink RX0 66 "BondDesk$Schedule" "dates" "[I", Cond.constantLong RX0 94 (3650000), Cond.constantLong RX0 99 (3650000000000000), Cond.constantLong RX0 105 (1000000000), Cond.methodLink RX0 19 yX3_firstBehind, Cond.instanceMethod yX3_firstBehind, Cond.selects RX3 yX3_firstBehind yX3_firstBehind, Cond.initialized RX3, Cond.code yX3_firstBehind cX3_firstBehind 3 (some .int), Cond.fieldLink RX3 41 "BondDesk$Schedule" "dates" "[I", Cond.methodLink RX0 34 yX0_isGone]
def wsX4_worthHeld_r2 : List Cond := [Cond.instanceMethod yX0_isGone, Cond.selects RX0 yX0_isGone yX0_isGone, Cond.code yX0_isGone cX0_isGone 1 (some .boolean), Cond.fieldLink RX0 28 "BondDesk$Bond" "state" "I", Cond.methodLink RX0 96 yX1_daysBetween, Cond.static yX1_daysBetween, Cond.initialized RX1, Cond.code yX1_daysBetween cX1_daysBetween 2 (some .int), Cond.methodLink RX1 31 yX1_dayNumber, Cond.static yX1_dayNumber, Cond.code yX1_dayNumber cX1_dayNumber 5 (some .int), Cond.fieldLink RX1 27 "BondDesk$Dates" "AHEAD" "[I", Cond.methodLink RX0 101 yX0_paymentOn, Cond.instanceMethod yX0_paymentOn, Cond.selects RX0 yX0_paymentOn yX0_paymentOn, Cond.code yX0_paymentOn cX0_paymentOn 3 (some .long), Cond.methodLink RX0 54 yX0_faceOf, Cond.static yX0_faceOf, Cond.code yX0_faceOf cX0_faceOf 1 (some .long), Cond.constantLong RX0 50 (100000), Cond.methodLink RX0 82 yX3_couponFor, Cond.instanceMethod yX3_couponFor, Cond.selects RX3 yX3_couponFor yX3_couponFor, Cond.code yX3_couponFor cX3_couponFor 6 (some .long)]
def wsX4_worthHeld_r3 : List Cond := [Cond.fieldLink RX3 29 "BondDesk$Schedule" "regularBegin" "I", Cond.fieldLink RX3 7 "BondDesk$Schedule" "issue" "I", Cond.fieldLink RX3 57 "BondDesk$Schedule" "firstYear" "J", Cond.fieldLink RX3 16 "BondDesk$Schedule" "rate" "I", Cond.fieldLink RX3 49 "BondDesk$Schedule" "firstDays" "J", Cond.constantLong RX3 65 (10000), Cond.fieldLink RX3 19 "BondDesk$Schedule" "perYear" "I", Cond.methodLink RX0 85 yX0_isEnd, Cond.instanceMethod yX0_isEnd, Cond.selects RX0 yX0_isEnd yX0_isEnd, Cond.code yX0_isEnd cX0_isEnd 2 (some .boolean), Cond.methodLink RX0 88 yX0_sunkOn, Cond.instanceMethod yX0_sunkOn, Cond.selects RX0 yX0_sunkOn yX0_sunkOn, Cond.code yX0_sunkOn cX0_sunkOn 4 (some .int), Cond.fieldLink RX0 70 "BondDesk$Bond" "sinkFrom" "I", Cond.fieldLink RX0 73 "BondDesk$Bond" "sinkPart" "I", Cond.methodLink RX0 76 Lib.Math.min.name, Cond.static Lib.Math.min.name, Cond.initialized "java/lang/Math", Cond.code Lib.Math.min.name Lib.Math.min.code 2 (some .int)]
def wsX4_worthHeld : List Cond := .code yX4_worthHeld cX4_worthHeld 7 (some .long) :: ((wsX4_worthHeld_r1 ++ (wsX4_worthHeld_r2 ++ wsX4_worthHeld_r3)) ++ wsX40 ++ wsX00 ++ wsX30)
def wsX4_tell_r1 : List Cond := [Cond.fieldLink RX4 27 "BondDesk" "today" "I", Cond.fieldLink RX4 33 "BondDesk" "cash" "J", Cond.fieldLink RX4 37 "BondDesk" "refinancing" "I", Cond.fieldLink RX4 114 "BondDesk" "bondCount" "I", Cond.fieldLink RX4 70 "BondDesk" "holidayCount" "I", Cond.fieldLink RX4 22 "BondDesk" "paid" "LBondDesk$Ledger;", Cond.fieldLink RX4 332 "BondDesk$Ledger" "coupons" "J", Cond.fieldLink RX4 335 "BondDesk$Ledger" "sinking" "J", Cond.fieldLink RX4 338 "BondDesk$Ledger" "calls" "J", Cond.fieldLink RX4 341 "BondDesk$Ledger" "ends" "J", Cond.methodLink RX4 326 yX4_bondsThere, Cond.instanceMethod yX4_bondsThere, Cond.selects RX4 yX4_bondsThere yX4_bondsThere, Cond.initialized RX4, Cond.code yX4_bondsThere cX4_bondsThere 6 (some .int), Cond.fieldLink RX4 15 "BondDesk" "bonds" "[LBondDesk$Bond;", Cond.methodLink RX4 201 yX0_isGone, Cond.instanceMethod yX0_isGone, Cond.selects RX0 yX0_isGone yX0_isGone, Cond.initialized RX0, Cond.code yX0_isGone cX0_isGone 1 (some .boolean), Cond.fieldLink RX0 28 "BondDesk$Bond" "state" "I", Cond.methodLink RX4 329 yX4_piecesHeld, Cond.instanceMethod yX4_piecesHeld]
def wsX4_tell_r2 : List Cond := [Cond.selects RX4 yX4_piecesHeld yX4_piecesHeld, Cond.code yX4_piecesHeld cX4_piecesHeld 6 (some .int), Cond.fieldLink RX4 244 "BondDesk$Bond" "pieces" "I", Cond.methodLink RX4 344 yX4_worthHeld, Cond.instanceMethod yX4_worthHeld, Cond.selects RX4 yX4_worthHeld yX4_worthHeld, Cond.code yX4_worthHeld cX4_worthHeld 7 (some .long), Cond.fieldLink RX4 212 "BondDesk$Bond" "factor" "I", Cond.methodLink RX4 215 yX0_worthAt, Cond.instanceMethod yX0_worthAt, Cond.selects RX0 yX0_worthAt yX0_worthAt, Cond.code yX0_worthAt cX0_worthAt 14 (some .long), Cond.fieldLink RX0 9 "BondDesk$Bond" "schedule" "LBondDesk$Schedule;", Cond.constantLong RX0 52 (10000), Cond.fieldLink RX0 91 "BondDesk$Schedule" "perYear" "I", Cond.fieldLink RX0 66 "BondDesk$Schedule" "dates" "[I", Cond.constantLong RX0 94 (3650000), Cond.constantLong RX0 99 (3650000000000000), Cond.constantLong RX0 105 (1000000000), Cond.methodLink RX0 19 yX3_firstBehind, Cond.instanceMethod yX3_firstBehind, Cond.selects RX3 yX3_firstBehind yX3_firstBehind, Cond.initialized RX3, Cond.code yX3_firstBehind cX3_firstBehind 3 (some .int)]
def wsX4_tell_r3 : List Cond := [Cond.fieldLink RX3 41 "BondDesk$Schedule" "dates" "[I", Cond.methodLink RX0 34 yX0_isGone, Cond.methodLink RX0 96 yX1_daysBetween, Cond.static yX1_daysBetween, Cond.initialized RX1, Cond.code yX1_daysBetween cX1_daysBetween 2 (some .int), Cond.methodLink RX1 31 yX1_dayNumber, Cond.static yX1_dayNumber, Cond.code yX1_dayNumber cX1_dayNumber 5 (some .int), Cond.fieldLink RX1 27 "BondDesk$Dates" "AHEAD" "[I", Cond.methodLink RX0 101 yX0_paymentOn, Cond.instanceMethod yX0_paymentOn, Cond.selects RX0 yX0_paymentOn yX0_paymentOn, Cond.code yX0_paymentOn cX0_paymentOn 3 (some .long), Cond.methodLink RX0 54 yX0_faceOf, Cond.static yX0_faceOf, Cond.code yX0_faceOf cX0_faceOf 1 (some .long), Cond.constantLong RX0 50 (100000), Cond.methodLink RX0 82 yX3_couponFor, Cond.instanceMethod yX3_couponFor, Cond.selects RX3 yX3_couponFor yX3_couponFor, Cond.code yX3_couponFor cX3_couponFor 6 (some .long), Cond.fieldLink RX3 29 "BondDesk$Schedule" "regularBegin" "I", Cond.fieldLink RX3 7 "BondDesk$Schedule" "issue" "I"]
def wsX4_tell_r4 : List Cond := [Cond.fieldLink RX3 57 "BondDesk$Schedule" "firstYear" "J", Cond.fieldLink RX3 16 "BondDesk$Schedule" "rate" "I", Cond.fieldLink RX3 49 "BondDesk$Schedule" "firstDays" "J", Cond.constantLong RX3 65 (10000), Cond.fieldLink RX3 19 "BondDesk$Schedule" "perYear" "I", Cond.methodLink RX0 85 yX0_isEnd, Cond.instanceMethod yX0_isEnd, Cond.selects RX0 yX0_isEnd yX0_isEnd, Cond.code yX0_isEnd cX0_isEnd 2 (some .boolean), Cond.methodLink RX0 88 yX0_sunkOn, Cond.instanceMethod yX0_sunkOn, Cond.selects RX0 yX0_sunkOn yX0_sunkOn, Cond.code yX0_sunkOn cX0_sunkOn 4 (some .int), Cond.fieldLink RX0 70 "BondDesk$Bond" "sinkFrom" "I", Cond.fieldLink RX0 73 "BondDesk$Bond" "sinkPart" "I", Cond.methodLink RX0 76 Lib.Math.min.name, Cond.static Lib.Math.min.name, Cond.initialized "java/lang/Math", Cond.code Lib.Math.min.name Lib.Math.min.code 2 (some .int)]
def wsX4_tell : List Cond := .code yX4_tell cX4_tell 2 (some .long) :: ((wsX4_tell_r1 ++ (wsX4_tell_r2 ++ (wsX4_tell_r3 ++ wsX4_tell_r4))) ++ wsX40 ++ wsX20 ++ wsX00 ++ wsX30)
def wsX4_count_r1 : List Cond := [Cond.classLink RX4 166 "java/lang/IndexOutOfBoundsException", Cond.initialized "java/lang/IndexOutOfBoundsException", Cond.methodLink RX4 270 yX4_tell, Cond.instanceMethod yX4_tell, Cond.selects RX4 yX4_tell yX4_tell, Cond.initialized RX4, Cond.code yX4_tell cX4_tell 2 (some .long), Cond.fieldLink RX4 27 "BondDesk" "today" "I", Cond.fieldLink RX4 33 "BondDesk" "cash" "J", Cond.fieldLink RX4 37 "BondDesk" "refinancing" "I", Cond.fieldLink RX4 114 "BondDesk" "bondCount" "I", Cond.fieldLink RX4 70 "BondDesk" "holidayCount" "I", Cond.fieldLink RX4 22 "BondDesk" "paid" "LBondDesk$Ledger;", Cond.fieldLink RX4 332 "BondDesk$Ledger" "coupons" "J", Cond.fieldLink RX4 335 "BondDesk$Ledger" "sinking" "J", Cond.fieldLink RX4 338 "BondDesk$Ledger" "calls" "J", Cond.fieldLink RX4 341 "BondDesk$Ledger" "ends" "J", Cond.methodLink RX4 326 yX4_bondsThere, Cond.instanceMethod yX4_bondsThere, Cond.selects RX4 yX4_bondsThere yX4_bondsThere, Cond.code yX4_bondsThere cX4_bondsThere 6 (some .int), Cond.fieldLink RX4 15 "BondDesk" "bonds" "[LBondDesk$Bond;", Cond.methodLink RX4 201 yX0_isGone, Cond.instanceMethod yX0_isGone]
def wsX4_count_r2 : List Cond := [Cond.selects RX0 yX0_isGone yX0_isGone, Cond.initialized RX0, Cond.code yX0_isGone cX0_isGone 1 (some .boolean), Cond.fieldLink RX0 28 "BondDesk$Bond" "state" "I", Cond.methodLink RX4 329 yX4_piecesHeld, Cond.instanceMethod yX4_piecesHeld, Cond.selects RX4 yX4_piecesHeld yX4_piecesHeld, Cond.code yX4_piecesHeld cX4_piecesHeld 6 (some .int), Cond.fieldLink RX4 244 "BondDesk$Bond" "pieces" "I", Cond.methodLink RX4 344 yX4_worthHeld, Cond.instanceMethod yX4_worthHeld, Cond.selects RX4 yX4_worthHeld yX4_worthHeld, Cond.code yX4_worthHeld cX4_worthHeld 7 (some .long), Cond.fieldLink RX4 212 "BondDesk$Bond" "factor" "I", Cond.methodLink RX4 215 yX0_worthAt, Cond.instanceMethod yX0_worthAt, Cond.selects RX0 yX0_worthAt yX0_worthAt, Cond.code yX0_worthAt cX0_worthAt 14 (some .long), Cond.fieldLink RX0 9 "BondDesk$Bond" "schedule" "LBondDesk$Schedule;", Cond.constantLong RX0 52 (10000), Cond.fieldLink RX0 91 "BondDesk$Schedule" "perYear" "I", Cond.fieldLink RX0 66 "BondDesk$Schedule" "dates" "[I", Cond.constantLong RX0 94 (3650000), Cond.constantLong RX0 99 (3650000000000000)]
def wsX4_count_r3 : List Cond := [Cond.constantLong RX0 105 (1000000000), Cond.methodLink RX0 19 yX3_firstBehind, Cond.instanceMethod yX3_firstBehind, Cond.selects RX3 yX3_firstBehind yX3_firstBehind, Cond.initialized RX3, Cond.code yX3_firstBehind cX3_firstBehind 3 (some .int), Cond.fieldLink RX3 41 "BondDesk$Schedule" "dates" "[I", Cond.methodLink RX0 34 yX0_isGone, Cond.methodLink RX0 96 yX1_daysBetween, Cond.static yX1_daysBetween, Cond.initialized RX1, Cond.code yX1_daysBetween cX1_daysBetween 2 (some .int), Cond.methodLink RX1 31 yX1_dayNumber, Cond.static yX1_dayNumber, Cond.code yX1_dayNumber cX1_dayNumber 5 (some .int), Cond.fieldLink RX1 27 "BondDesk$Dates" "AHEAD" "[I", Cond.methodLink RX0 101 yX0_paymentOn, Cond.instanceMethod yX0_paymentOn, Cond.selects RX0 yX0_paymentOn yX0_paymentOn, Cond.code yX0_paymentOn cX0_paymentOn 3 (some .long), Cond.methodLink RX0 54 yX0_faceOf, Cond.static yX0_faceOf, Cond.code yX0_faceOf cX0_faceOf 1 (some .long), Cond.constantLong RX0 50 (100000)]
def wsX4_count_r4 : List Cond := [Cond.methodLink RX0 82 yX3_couponFor, Cond.instanceMethod yX3_couponFor, Cond.selects RX3 yX3_couponFor yX3_couponFor, Cond.code yX3_couponFor cX3_couponFor 6 (some .long), Cond.fieldLink RX3 29 "BondDesk$Schedule" "regularBegin" "I", Cond.fieldLink RX3 7 "BondDesk$Schedule" "issue" "I", Cond.fieldLink RX3 57 "BondDesk$Schedule" "firstYear" "J", Cond.fieldLink RX3 16 "BondDesk$Schedule" "rate" "I", Cond.fieldLink RX3 49 "BondDesk$Schedule" "firstDays" "J", Cond.constantLong RX3 65 (10000), Cond.fieldLink RX3 19 "BondDesk$Schedule" "perYear" "I", Cond.methodLink RX0 85 yX0_isEnd, Cond.instanceMethod yX0_isEnd, Cond.selects RX0 yX0_isEnd yX0_isEnd, Cond.code yX0_isEnd cX0_isEnd 2 (some .boolean), Cond.methodLink RX0 88 yX0_sunkOn, Cond.instanceMethod yX0_sunkOn, Cond.selects RX0 yX0_sunkOn yX0_sunkOn, Cond.code yX0_sunkOn cX0_sunkOn 4 (some .int), Cond.fieldLink RX0 70 "BondDesk$Bond" "sinkFrom" "I", Cond.fieldLink RX0 73 "BondDesk$Bond" "sinkPart" "I", Cond.methodLink RX0 76 Lib.Math.min.name, Cond.static Lib.Math.min.name, Cond.initialized "java/lang/Math"]
def wsX4_count_r5 : List Cond := [Cond.code Lib.Math.min.name Lib.Math.min.code 2 (some .int)]
def wsX4_count : List Cond := .code yX4_count cX4_count 2 (some .long) :: ((wsX4_count_r1 ++ (wsX4_count_r2 ++ (wsX4_count_r3 ++ (wsX4_count_r4 ++ wsX4_count_r5)))) ++ wsX40 ++ wsX20 ++ wsX00 ++ wsX30 ++ (vx_atS RX4 170 "java/lang/IndexOutOfBoundsException" ["java/lang/RuntimeException", "java/lang/Exception"]).filter goodWord)
def wsX4_requireYear : List Cond := .code yX4_requireYear cX4_requireYear 1 none :: ([.classLink RX4 44 "java/lang/IllegalArgumentException", .initialized "java/lang/IllegalArgumentException"] ++ (vx_atS RX4 48 "java/lang/IllegalArgumentException" ["java/lang/RuntimeException", "java/lang/Exception"]).filter goodWord)
def wsX4_paysIn_r1 : List Cond := [Cond.fieldLink RX4 15 "BondDesk" "bonds" "[LBondDesk$Bond;", Cond.fieldLink RX4 244 "BondDesk$Bond" "pieces" "I", Cond.fieldLink RX4 27 "BondDesk" "today" "I", Cond.methodLink RX4 272 yX4_requireYear, Cond.static yX4_requireYear, Cond.initialized RX4, Cond.code yX4_requireYear cX4_requireYear 1 none, Cond.classLink RX4 44 "java/lang/IllegalArgumentException", Cond.initialized "java/lang/IllegalArgumentException", Cond.methodLink RX4 275 yX0_paymentsIn, Cond.instanceMethod yX0_paymentsIn, Cond.selects RX0 yX0_paymentsIn yX0_paymentsIn, Cond.initialized RX0, Cond.code yX0_paymentsIn cX0_paymentsIn 7 (some .long), Cond.fieldLink RX0 15 "BondDesk$Bond" "factor" "I", Cond.fieldLink RX0 9 "BondDesk$Bond" "schedule" "LBondDesk$Schedule;", Cond.fieldLink RX0 66 "BondDesk$Schedule" "dates" "[I", Cond.methodLink RX0 19 yX3_firstBehind, Cond.instanceMethod yX3_firstBehind, Cond.selects RX3 yX3_firstBehind yX3_firstBehind, Cond.initialized RX3, Cond.code yX3_firstBehind cX3_firstBehind 3 (some .int), Cond.fieldLink RX3 41 "BondDesk$Schedule" "dates" "[I", Cond.methodLink RX0 45 yX1_yearOf]
def wsX4_paysIn_r2 : List Cond := [Cond.static yX1_yearOf, Cond.initialized RX1, Cond.code yX1_yearOf cX1_yearOf 1 (some .int), Cond.methodLink RX0 101 yX0_paymentOn, Cond.instanceMethod yX0_paymentOn, Cond.selects RX0 yX0_paymentOn yX0_paymentOn, Cond.code yX0_paymentOn cX0_paymentOn 3 (some .long), Cond.methodLink RX0 54 yX0_faceOf, Cond.static yX0_faceOf, Cond.code yX0_faceOf cX0_faceOf 1 (some .long), Cond.constantLong RX0 50 (100000), Cond.constantLong RX0 52 (10000), Cond.methodLink RX0 82 yX3_couponFor, Cond.instanceMethod yX3_couponFor, Cond.selects RX3 yX3_couponFor yX3_couponFor, Cond.code yX3_couponFor cX3_couponFor 6 (some .long), Cond.fieldLink RX3 29 "BondDesk$Schedule" "regularBegin" "I", Cond.fieldLink RX3 7 "BondDesk$Schedule" "issue" "I", Cond.fieldLink RX3 57 "BondDesk$Schedule" "firstYear" "J", Cond.fieldLink RX3 16 "BondDesk$Schedule" "rate" "I", Cond.fieldLink RX3 49 "BondDesk$Schedule" "firstDays" "J", Cond.constantLong RX3 65 (10000), Cond.fieldLink RX3 19 "BondDesk$Schedule" "perYear" "I", Cond.methodLink RX0 85 yX0_isEnd]
def wsX4_paysIn_r3 : List Cond := [Cond.instanceMethod yX0_isEnd, Cond.selects RX0 yX0_isEnd yX0_isEnd, Cond.code yX0_isEnd cX0_isEnd 2 (some .boolean), Cond.methodLink RX0 88 yX0_sunkOn, Cond.instanceMethod yX0_sunkOn, Cond.selects RX0 yX0_sunkOn yX0_sunkOn, Cond.code yX0_sunkOn cX0_sunkOn 4 (some .int), Cond.fieldLink RX0 70 "BondDesk$Bond" "sinkFrom" "I", Cond.fieldLink RX0 73 "BondDesk$Bond" "sinkPart" "I", Cond.methodLink RX0 76 Lib.Math.min.name, Cond.static Lib.Math.min.name, Cond.initialized "java/lang/Math", Cond.code Lib.Math.min.name Lib.Math.min.code 2 (some .int)]
def wsX4_paysIn : List Cond := .code yX4_paysIn cX4_paysIn 8 (some .long) :: ((wsX4_paysIn_r1 ++ (wsX4_paysIn_r2 ++ wsX4_paysIn_r3)) ++ wsX40 ++ wsX00 ++ wsX30 ++ (vx_atS RX4 48 "java/lang/IllegalArgumentException" ["java/lang/RuntimeException", "java/lang/Exception"]).filter goodWord)
def wsX4_leastWorth_r1 : List Cond := [Cond.constantLong RX4 320 (-1), Cond.fieldLink RX4 15 "BondDesk" "bonds" "[LBondDesk$Bond;", Cond.fieldLink RX4 27 "BondDesk" "today" "I", Cond.fieldLink RX4 212 "BondDesk$Bond" "factor" "I", Cond.fieldLink RX4 37 "BondDesk" "refinancing" "I", Cond.methodLink RX4 322 yX0_isRung, Cond.instanceMethod yX0_isRung, Cond.selects RX0 yX0_isRung yX0_isRung, Cond.initialized RX0, Cond.code yX0_isRung cX0_isRung 3 (some .boolean), Cond.fieldLink RX0 9 "BondDesk$Bond" "schedule" "LBondDesk$Schedule;", Cond.fieldLink RX0 42 "BondDesk$Schedule" "end" "I", Cond.methodLink RX0 34 yX0_isGone, Cond.instanceMethod yX0_isGone, Cond.selects RX0 yX0_isGone yX0_isGone, Cond.code yX0_isGone cX0_isGone 1 (some .boolean), Cond.fieldLink RX0 28 "BondDesk$Bond" "state" "I", Cond.methodLink RX0 38 yX0_isIssued, Cond.instanceMethod yX0_isIssued, Cond.selects RX0 yX0_isIssued yX0_isIssued, Cond.code yX0_isIssued cX0_isIssued 2 (some .boolean), Cond.fieldLink RX0 31 "BondDesk$Schedule" "issue" "I", Cond.methodLink RX0 45 yX1_yearOf, Cond.static yX1_yearOf]
def wsX4_leastWorth_r2 : List Cond := [Cond.initialized RX1, Cond.code yX1_yearOf cX1_yearOf 1 (some .int), Cond.methodLink RX4 215 yX0_worthAt, Cond.instanceMethod yX0_worthAt, Cond.selects RX0 yX0_worthAt yX0_worthAt, Cond.code yX0_worthAt cX0_worthAt 14 (some .long), Cond.constantLong RX0 52 (10000), Cond.fieldLink RX0 91 "BondDesk$Schedule" "perYear" "I", Cond.fieldLink RX0 66 "BondDesk$Schedule" "dates" "[I", Cond.constantLong RX0 94 (3650000), Cond.constantLong RX0 99 (3650000000000000), Cond.constantLong RX0 105 (1000000000), Cond.methodLink RX0 19 yX3_firstBehind, Cond.instanceMethod yX3_firstBehind, Cond.selects RX3 yX3_firstBehind yX3_firstBehind, Cond.initialized RX3, Cond.code yX3_firstBehind cX3_firstBehind 3 (some .int), Cond.fieldLink RX3 41 "BondDesk$Schedule" "dates" "[I", Cond.methodLink RX0 96 yX1_daysBetween, Cond.static yX1_daysBetween, Cond.code yX1_daysBetween cX1_daysBetween 2 (some .int), Cond.methodLink RX1 31 yX1_dayNumber, Cond.static yX1_dayNumber, Cond.code yX1_dayNumber cX1_dayNumber 5 (some .int)]
def wsX4_leastWorth_r3 : List Cond := [Cond.fieldLink RX1 27 "BondDesk$Dates" "AHEAD" "[I", Cond.methodLink RX0 101 yX0_paymentOn, Cond.instanceMethod yX0_paymentOn, Cond.selects RX0 yX0_paymentOn yX0_paymentOn, Cond.code yX0_paymentOn cX0_paymentOn 3 (some .long), Cond.methodLink RX0 54 yX0_faceOf, Cond.static yX0_faceOf, Cond.code yX0_faceOf cX0_faceOf 1 (some .long), Cond.constantLong RX0 50 (100000), Cond.methodLink RX0 82 yX3_couponFor, Cond.instanceMethod yX3_couponFor, Cond.selects RX3 yX3_couponFor yX3_couponFor, Cond.code yX3_couponFor cX3_couponFor 6 (some .long), Cond.fieldLink RX3 29 "BondDesk$Schedule" "regularBegin" "I", Cond.fieldLink RX3 7 "BondDesk$Schedule" "issue" "I", Cond.fieldLink RX3 57 "BondDesk$Schedule" "firstYear" "J", Cond.fieldLink RX3 16 "BondDesk$Schedule" "rate" "I", Cond.fieldLink RX3 49 "BondDesk$Schedule" "firstDays" "J", Cond.constantLong RX3 65 (10000), Cond.fieldLink RX3 19 "BondDesk$Schedule" "perYear" "I", Cond.methodLink RX0 85 yX0_isEnd, Cond.instanceMethod yX0_isEnd, Cond.selects RX0 yX0_isEnd yX0_isEnd, Cond.code yX0_isEnd cX0_isEnd 2 (some .boolean)]
def wsX4_leastWorth_r4 : List Cond := [Cond.methodLink RX0 88 yX0_sunkOn, Cond.instanceMethod yX0_sunkOn, Cond.selects RX0 yX0_sunkOn yX0_sunkOn, Cond.code yX0_sunkOn cX0_sunkOn 4 (some .int), Cond.fieldLink RX0 70 "BondDesk$Bond" "sinkFrom" "I", Cond.fieldLink RX0 73 "BondDesk$Bond" "sinkPart" "I", Cond.methodLink RX0 76 Lib.Math.min.name, Cond.static Lib.Math.min.name, Cond.initialized "java/lang/Math", Cond.code Lib.Math.min.name Lib.Math.min.code 2 (some .int)]
def wsX4_leastWorth : List Cond := .code yX4_leastWorth cX4_leastWorth 10 (some .long) :: ((wsX4_leastWorth_r1 ++ (wsX4_leastWorth_r2 ++ (wsX4_leastWorth_r3 ++ wsX4_leastWorth_r4))) ++ wsX40 ++ wsX00 ++ wsX30)
def wsX4_ladder_r1 : List Cond := [Cond.classLink RX4 44 "java/lang/IllegalArgumentException", Cond.initialized "java/lang/IllegalArgumentException", Cond.fieldLink RX4 33 "BondDesk" "cash" "J", Cond.constantLong RX4 283 (1000000), Cond.methodLink RX4 285 Lib.MathLoose.min_long.x, Cond.static Lib.MathLoose.min_long.x, Cond.initialized "java/lang/Math", Cond.code Lib.MathLoose.min_long.x Lib.MathLoose.min_long.code 4 (some .long), Cond.methodLink RX4 272 yX4_requireYear, Cond.static yX4_requireYear, Cond.initialized RX4, Cond.code yX4_requireYear cX4_requireYear 1 none, Cond.methodLink RX4 280 yX4_leastWorth, Cond.instanceMethod yX4_leastWorth, Cond.selects RX4 yX4_leastWorth yX4_leastWorth, Cond.code yX4_leastWorth cX4_leastWorth 10 (some .long), Cond.constantLong RX4 320 (-1), Cond.fieldLink RX4 15 "BondDesk" "bonds" "[LBondDesk$Bond;", Cond.fieldLink RX4 27 "BondDesk" "today" "I", Cond.fieldLink RX4 212 "BondDesk$Bond" "factor" "I", Cond.fieldLink RX4 37 "BondDesk" "refinancing" "I", Cond.methodLink RX4 322 yX0_isRung, Cond.instanceMethod yX0_isRung, Cond.selects RX0 yX0_isRung yX0_isRung]
def wsX4_ladder_r2 : List Cond := [Cond.initialized RX0, Cond.code yX0_isRung cX0_isRung 3 (some .boolean), Cond.fieldLink RX0 9 "BondDesk$Bond" "schedule" "LBondDesk$Schedule;", Cond.fieldLink RX0 42 "BondDesk$Schedule" "end" "I", Cond.methodLink RX0 34 yX0_isGone, Cond.instanceMethod yX0_isGone, Cond.selects RX0 yX0_isGone yX0_isGone, Cond.code yX0_isGone cX0_isGone 1 (some .boolean), Cond.fieldLink RX0 28 "BondDesk$Bond" "state" "I", Cond.methodLink RX0 38 yX0_isIssued, Cond.instanceMethod yX0_isIssued, Cond.selects RX0 yX0_isIssued yX0_isIssued, Cond.code yX0_isIssued cX0_isIssued 2 (some .boolean), Cond.fieldLink RX0 31 "BondDesk$Schedule" "issue" "I", Cond.methodLink RX0 45 yX1_yearOf, Cond.static yX1_yearOf, Cond.initialized RX1, Cond.code yX1_yearOf cX1_yearOf 1 (some .int), Cond.methodLink RX4 215 yX0_worthAt, Cond.instanceMethod yX0_worthAt, Cond.selects RX0 yX0_worthAt yX0_worthAt, Cond.code yX0_worthAt cX0_worthAt 14 (some .long), Cond.constantLong RX0 52 (10000), Cond.fieldLink RX0 91 "BondDesk$Schedule" "perYear" "I"]
def wsX4_ladder_r3 : List Cond := [Cond.fieldLink RX0 66 "BondDesk$Schedule" "dates" "[I", Cond.constantLong RX0 94 (3650000), Cond.constantLong RX0 99 (3650000000000000), Cond.constantLong RX0 105 (1000000000), Cond.methodLink RX0 19 yX3_firstBehind, Cond.instanceMethod yX3_firstBehind, Cond.selects RX3 yX3_firstBehind yX3_firstBehind, Cond.initialized RX3, Cond.code yX3_firstBehind cX3_firstBehind 3 (some .int), Cond.fieldLink RX3 41 "BondDesk$Schedule" "dates" "[I", Cond.methodLink RX0 96 yX1_daysBetween, Cond.static yX1_daysBetween, Cond.code yX1_daysBetween cX1_daysBetween 2 (some .int), Cond.methodLink RX1 31 yX1_dayNumber, Cond.static yX1_dayNumber, Cond.code yX1_dayNumber cX1_dayNumber 5 (some .int), Cond.fieldLink RX1 27 "BondDesk$Dates" "AHEAD" "[I", Cond.methodLink RX0 101 yX0_paymentOn, Cond.instanceMethod yX0_paymentOn, Cond.selects RX0 yX0_paymentOn yX0_paymentOn, Cond.code yX0_paymentOn cX0_paymentOn 3 (some .long), Cond.methodLink RX0 54 yX0_faceOf, Cond.static yX0_faceOf, Cond.code yX0_faceOf cX0_faceOf 1 (some .long)]
def wsX4_ladder_r4 : List Cond := [Cond.constantLong RX0 50 (100000), Cond.methodLink RX0 82 yX3_couponFor, Cond.instanceMethod yX3_couponFor, Cond.selects RX3 yX3_couponFor yX3_couponFor, Cond.code yX3_couponFor cX3_couponFor 6 (some .long), Cond.fieldLink RX3 29 "BondDesk$Schedule" "regularBegin" "I", Cond.fieldLink RX3 7 "BondDesk$Schedule" "issue" "I", Cond.fieldLink RX3 57 "BondDesk$Schedule" "firstYear" "J", Cond.fieldLink RX3 16 "BondDesk$Schedule" "rate" "I", Cond.fieldLink RX3 49 "BondDesk$Schedule" "firstDays" "J", Cond.constantLong RX3 65 (10000), Cond.fieldLink RX3 19 "BondDesk$Schedule" "perYear" "I", Cond.methodLink RX0 85 yX0_isEnd, Cond.instanceMethod yX0_isEnd, Cond.selects RX0 yX0_isEnd yX0_isEnd, Cond.code yX0_isEnd cX0_isEnd 2 (some .boolean), Cond.methodLink RX0 88 yX0_sunkOn, Cond.instanceMethod yX0_sunkOn, Cond.selects RX0 yX0_sunkOn yX0_sunkOn, Cond.code yX0_sunkOn cX0_sunkOn 4 (some .int), Cond.fieldLink RX0 70 "BondDesk$Bond" "sinkFrom" "I", Cond.fieldLink RX0 73 "BondDesk$Bond" "sinkPart" "I", Cond.methodLink RX0 76 Lib.Math.min.name, Cond.static Lib.Math.min.name]
def wsX4_ladder_r5 : List Cond := [Cond.code Lib.Math.min.name Lib.Math.min.code 2 (some .int)]
def wsX4_ladder : List Cond := .code yX4_ladder cX4_ladder 8 (some .int) :: ((wsX4_ladder_r1 ++ (wsX4_ladder_r2 ++ (wsX4_ladder_r3 ++ (wsX4_ladder_r4 ++ wsX4_ladder_r5)))) ++ wsX40 ++ wsX00 ++ wsX30 ++ (vx_atS RX4 48 "java/lang/IllegalArgumentException" ["java/lang/RuntimeException", "java/lang/Exception"]).filter goodWord)
def wsX4_best_r1 : List Cond := [Cond.fieldLink RX4 15 "BondDesk" "bonds" "[LBondDesk$Bond;", Cond.fieldLink RX4 27 "BondDesk" "today" "I", Cond.methodLink RX4 219 yX4_requirePrice, Cond.static yX4_requirePrice, Cond.initialized RX4, Cond.code yX4_requirePrice cX4_requirePrice 1 none, Cond.classLink RX4 44 "java/lang/IllegalArgumentException", Cond.initialized "java/lang/IllegalArgumentException", Cond.methodLink RX4 201 yX0_isGone, Cond.instanceMethod yX0_isGone, Cond.selects RX0 yX0_isGone yX0_isGone, Cond.initialized RX0, Cond.code yX0_isGone cX0_isGone 1 (some .boolean), Cond.fieldLink RX0 28 "BondDesk$Bond" "state" "I", Cond.methodLink RX4 239 yX0_isIssued, Cond.instanceMethod yX0_isIssued, Cond.selects RX0 yX0_isIssued yX0_isIssued, Cond.code yX0_isIssued cX0_isIssued 2 (some .boolean), Cond.fieldLink RX0 9 "BondDesk$Bond" "schedule" "LBondDesk$Schedule;", Cond.fieldLink RX0 31 "BondDesk$Schedule" "issue" "I", Cond.methodLink RX4 222 yX0_yieldAt, Cond.instanceMethod yX0_yieldAt, Cond.selects RX0 yX0_yieldAt yX0_yieldAt, Cond.code yX0_yieldAt cX0_yieldAt 3 (some .int)]
def wsX4_best_r2 : List Cond := [Cond.fieldLink RX0 15 "BondDesk$Bond" "factor" "I", Cond.methodLink RX0 34 yX0_isGone, Cond.methodLink RX0 111 yX0_fullPrice, Cond.instanceMethod yX0_fullPrice, Cond.selects RX0 yX0_fullPrice yX0_fullPrice, Cond.code yX0_fullPrice cX0_fullPrice 3 (some .long), Cond.constantLong RX0 52 (10000), Cond.methodLink RX0 58 yX0_face, Cond.instanceMethod yX0_face, Cond.selects RX0 yX0_face yX0_face, Cond.code yX0_face cX0_face 1 (some .long), Cond.methodLink RX0 54 yX0_faceOf, Cond.static yX0_faceOf, Cond.code yX0_faceOf cX0_faceOf 1 (some .long), Cond.constantLong RX0 50 (100000), Cond.methodLink RX0 62 yX3_accruedFor, Cond.instanceMethod yX3_accruedFor, Cond.selects RX3 yX3_accruedFor yX3_accruedFor, Cond.initialized RX3, Cond.code yX3_accruedFor cX3_accruedFor 7 (some .long), Cond.fieldLink RX3 7 "BondDesk$Schedule" "issue" "I", Cond.fieldLink RX3 41 "BondDesk$Schedule" "dates" "[I", Cond.fieldLink RX3 16 "BondDesk$Schedule" "rate" "I", Cond.methodLink RX3 67 yX3_firstBehind]
def wsX4_best_r3 : List Cond := [Cond.instanceMethod yX3_firstBehind, Cond.selects RX3 yX3_firstBehind yX3_firstBehind, Cond.code yX3_firstBehind cX3_firstBehind 3 (some .int), Cond.methodLink RX3 53 yX3_yearOfPeriod, Cond.instanceMethod yX3_yearOfPeriod, Cond.selects RX3 yX3_yearOfPeriod yX3_yearOfPeriod, Cond.code yX3_yearOfPeriod cX3_yearOfPeriod 3 (some .long), Cond.fieldLink RX3 22 "BondDesk$Schedule" "way" "I", Cond.constantLong RX3 80 (3650000), Cond.constantLong RX3 82 (3600000), Cond.fieldLink RX3 29 "BondDesk$Schedule" "regularBegin" "I", Cond.constantLong RX3 65 (10000), Cond.fieldLink RX3 19 "BondDesk$Schedule" "perYear" "I", Cond.methodLink RX3 77 yX1_daysBetween, Cond.static yX1_daysBetween, Cond.initialized RX1, Cond.code yX1_daysBetween cX1_daysBetween 2 (some .int), Cond.methodLink RX1 31 yX1_dayNumber, Cond.static yX1_dayNumber, Cond.code yX1_dayNumber cX1_dayNumber 5 (some .int), Cond.fieldLink RX1 27 "BondDesk$Dates" "AHEAD" "[I", Cond.methodLink RX3 71 yX3_beginOf, Cond.instanceMethod yX3_beginOf, Cond.selects RX3 yX3_beginOf yX3_beginOf]
def wsX4_best_r4 : List Cond := [Cond.code yX3_beginOf cX3_beginOf 2 (some .int), Cond.methodLink RX3 45 yX3_daysCounted, Cond.instanceMethod yX3_daysCounted, Cond.selects RX3 yX3_daysCounted yX3_daysCounted, Cond.code yX3_daysCounted cX3_daysCounted 3 (some .long), Cond.methodLink RX3 74 yX1_daysOf30, Cond.static yX1_daysOf30, Cond.code yX1_daysOf30 cX1_daysOf30 4 (some .int), Cond.methodLink RX1 34 Lib.Math.min.name, Cond.static Lib.Math.min.name, Cond.initialized "java/lang/Math", Cond.code Lib.Math.min.name Lib.Math.min.code 2 (some .int), Cond.methodLink RX1 17 yX1_dayOf, Cond.static yX1_dayOf, Cond.code yX1_dayOf cX1_dayOf 1 (some .int), Cond.methodLink RX1 20 yX1_yearOf, Cond.static yX1_yearOf, Cond.code yX1_yearOf cX1_yearOf 1 (some .int), Cond.methodLink RX1 13 yX1_monthOf, Cond.static yX1_monthOf, Cond.code yX1_monthOf cX1_monthOf 1 (some .int), Cond.methodLink RX0 114 yX0_greatestRate, Cond.instanceMethod yX0_greatestRate, Cond.selects RX0 yX0_greatestRate yX0_greatestRate]
def wsX4_best_r5 : List Cond := [Cond.code yX0_greatestRate cX0_greatestRate 8 (some .int), Cond.methodLink RX0 107 yX0_worthAt, Cond.instanceMethod yX0_worthAt, Cond.selects RX0 yX0_worthAt yX0_worthAt, Cond.code yX0_worthAt cX0_worthAt 14 (some .long), Cond.fieldLink RX0 91 "BondDesk$Schedule" "perYear" "I", Cond.fieldLink RX0 66 "BondDesk$Schedule" "dates" "[I", Cond.constantLong RX0 94 (3650000), Cond.constantLong RX0 99 (3650000000000000), Cond.constantLong RX0 105 (1000000000), Cond.methodLink RX0 19 yX3_firstBehind, Cond.methodLink RX0 96 yX1_daysBetween, Cond.methodLink RX0 101 yX0_paymentOn, Cond.instanceMethod yX0_paymentOn, Cond.selects RX0 yX0_paymentOn yX0_paymentOn, Cond.code yX0_paymentOn cX0_paymentOn 3 (some .long), Cond.methodLink RX0 82 yX3_couponFor, Cond.instanceMethod yX3_couponFor, Cond.selects RX3 yX3_couponFor yX3_couponFor, Cond.code yX3_couponFor cX3_couponFor 6 (some .long), Cond.fieldLink RX3 57 "BondDesk$Schedule" "firstYear" "J", Cond.fieldLink RX3 49 "BondDesk$Schedule" "firstDays" "J", Cond.methodLink RX0 85 yX0_isEnd, Cond.instanceMethod yX0_isEnd]
def wsX4_best_r6 : List Cond := [Cond.selects RX0 yX0_isEnd yX0_isEnd, Cond.code yX0_isEnd cX0_isEnd 2 (some .boolean), Cond.methodLink RX0 88 yX0_sunkOn, Cond.instanceMethod yX0_sunkOn, Cond.selects RX0 yX0_sunkOn yX0_sunkOn, Cond.code yX0_sunkOn cX0_sunkOn 4 (some .int), Cond.fieldLink RX0 70 "BondDesk$Bond" "sinkFrom" "I", Cond.fieldLink RX0 73 "BondDesk$Bond" "sinkPart" "I", Cond.methodLink RX0 76 Lib.Math.min.name]
def wsX4_best : List Cond := .code yX4_best cX4_best 7 (some .int) :: ((wsX4_best_r1 ++ (wsX4_best_r2 ++ (wsX4_best_r3 ++ (wsX4_best_r4 ++ (wsX4_best_r5 ++ wsX4_best_r6))))) ++ wsX40 ++ wsX00 ++ wsX30 ++ (vx_atS RX4 48 "java/lang/IllegalArgumentException" ["java/lang/RuntimeException", "java/lang/Exception"]).filter goodWord)
def wsX4_years_r1 : List Cond := [Cond.fieldLink RX4 15 "BondDesk" "bonds" "[LBondDesk$Bond;", Cond.fieldLink RX4 244 "BondDesk$Bond" "pieces" "I", Cond.fieldLink RX4 27 "BondDesk" "today" "I", Cond.fieldLink RX4 141 "BondDesk$Bond" "schedule" "LBondDesk$Schedule;", Cond.fieldLink RX4 294 "BondDesk$Schedule" "end" "I", Cond.constantDouble RX4 300 (4645128764097822720), Cond.methodLink RX4 291 yX0_face, Cond.instanceMethod yX0_face, Cond.selects RX0 yX0_face yX0_face, Cond.initialized RX0, Cond.code yX0_face cX0_face 1 (some .long), Cond.fieldLink RX0 15 "BondDesk$Bond" "factor" "I", Cond.methodLink RX0 54 yX0_faceOf, Cond.static yX0_faceOf, Cond.code yX0_faceOf cX0_faceOf 1 (some .long), Cond.constantLong RX0 50 (100000), Cond.constantLong RX0 52 (10000), Cond.methodLink RX4 297 yX1_daysBetween, Cond.static yX1_daysBetween, Cond.initialized RX1, Cond.code yX1_daysBetween cX1_daysBetween 2 (some .int), Cond.methodLink RX1 31 yX1_dayNumber, Cond.static yX1_dayNumber, Cond.code yX1_dayNumber cX1_dayNumber 5 (some .int)]
def wsX4_years_r2 : List Cond := [Cond.fieldLink RX1 27 "BondDesk$Dates" "AHEAD" "[I"]
def wsX4_years : List Cond := .code yX4_years cX4_years 11 (some .double) :: ((wsX4_years_r1 ++ wsX4_years_r2) ++ wsX40 ++ wsX00 ++ wsX30)
def wsX4_digest_r1 : List Cond := [Cond.constantLong RX4 302 (647), Cond.constantLong RX4 304 (31), Cond.fieldLink RX4 70 "BondDesk" "holidayCount" "I", Cond.fieldLink RX4 9 "BondDesk" "holidays" "[I", Cond.fieldLink RX4 15 "BondDesk" "bonds" "[LBondDesk$Bond;", Cond.fieldLink RX4 27 "BondDesk" "today" "I", Cond.methodLink RX4 270 yX4_tell, Cond.instanceMethod yX4_tell, Cond.selects RX4 yX4_tell yX4_tell, Cond.initialized RX4, Cond.code yX4_tell cX4_tell 2 (some .long), Cond.fieldLink RX4 33 "BondDesk" "cash" "J", Cond.fieldLink RX4 37 "BondDesk" "refinancing" "I", Cond.fieldLink RX4 114 "BondDesk" "bondCount" "I", Cond.fieldLink RX4 22 "BondDesk" "paid" "LBondDesk$Ledger;", Cond.fieldLink RX4 332 "BondDesk$Ledger" "coupons" "J", Cond.fieldLink RX4 335 "BondDesk$Ledger" "sinking" "J", Cond.fieldLink RX4 338 "BondDesk$Ledger" "calls" "J", Cond.fieldLink RX4 341 "BondDesk$Ledger" "ends" "J", Cond.methodLink RX4 326 yX4_bondsThere, Cond.instanceMethod yX4_bondsThere, Cond.selects RX4 yX4_bondsThere yX4_bondsThere, Cond.code yX4_bondsThere cX4_bondsThere 6 (some .int), Cond.methodLink RX4 201 yX0_isGone]
def wsX4_digest_r2 : List Cond := [Cond.instanceMethod yX0_isGone, Cond.selects RX0 yX0_isGone yX0_isGone, Cond.initialized RX0, Cond.code yX0_isGone cX0_isGone 1 (some .boolean), Cond.fieldLink RX0 28 "BondDesk$Bond" "state" "I", Cond.methodLink RX4 329 yX4_piecesHeld, Cond.instanceMethod yX4_piecesHeld, Cond.selects RX4 yX4_piecesHeld yX4_piecesHeld, Cond.code yX4_piecesHeld cX4_piecesHeld 6 (some .int), Cond.fieldLink RX4 244 "BondDesk$Bond" "pieces" "I", Cond.methodLink RX4 344 yX4_worthHeld, Cond.instanceMethod yX4_worthHeld, Cond.selects RX4 yX4_worthHeld yX4_worthHeld, Cond.code yX4_worthHeld cX4_worthHeld 7 (some .long), Cond.fieldLink RX4 212 "BondDesk$Bond" "factor" "I", Cond.methodLink RX4 215 yX0_worthAt, Cond.instanceMethod yX0_worthAt, Cond.selects RX0 yX0_worthAt yX0_worthAt, Cond.code yX0_worthAt cX0_worthAt 14 (some .long), Cond.fieldLink RX0 9 "BondDesk$Bond" "schedule" "LBondDesk$Schedule;", Cond.constantLong RX0 52 (10000), Cond.fieldLink RX0 91 "BondDesk$Schedule" "perYear" "I", Cond.fieldLink RX0 66 "BondDesk$Schedule" "dates" "[I", Cond.constantLong RX0 94 (3650000)]
def wsX4_digest_r3 : List Cond := [Cond.constantLong RX0 99 (3650000000000000), Cond.constantLong RX0 105 (1000000000), Cond.methodLink RX0 19 yX3_firstBehind, Cond.instanceMethod yX3_firstBehind, Cond.selects RX3 yX3_firstBehind yX3_firstBehind, Cond.initialized RX3, Cond.code yX3_firstBehind cX3_firstBehind 3 (some .int), Cond.fieldLink RX3 41 "BondDesk$Schedule" "dates" "[I", Cond.methodLink RX0 34 yX0_isGone, Cond.methodLink RX0 96 yX1_daysBetween, Cond.static yX1_daysBetween, Cond.initialized RX1, Cond.code yX1_daysBetween cX1_daysBetween 2 (some .int), Cond.methodLink RX1 31 yX1_dayNumber, Cond.static yX1_dayNumber, Cond.code yX1_dayNumber cX1_dayNumber 5 (some .int), Cond.fieldLink RX1 27 "BondDesk$Dates" "AHEAD" "[I", Cond.methodLink RX0 101 yX0_paymentOn, Cond.instanceMethod yX0_paymentOn, Cond.selects RX0 yX0_paymentOn yX0_paymentOn, Cond.code yX0_paymentOn cX0_paymentOn 3 (some .long), Cond.methodLink RX0 54 yX0_faceOf, Cond.static yX0_faceOf, Cond.code yX0_faceOf cX0_faceOf 1 (some .long)]
def wsX4_digest_r4 : List Cond := [Cond.constantLong RX0 50 (100000), Cond.methodLink RX0 82 yX3_couponFor, Cond.instanceMethod yX3_couponFor, Cond.selects RX3 yX3_couponFor yX3_couponFor, Cond.code yX3_couponFor cX3_couponFor 6 (some .long), Cond.fieldLink RX3 29 "BondDesk$Schedule" "regularBegin" "I", Cond.fieldLink RX3 7 "BondDesk$Schedule" "issue" "I", Cond.fieldLink RX3 57 "BondDesk$Schedule" "firstYear" "J", Cond.fieldLink RX3 16 "BondDesk$Schedule" "rate" "I", Cond.fieldLink RX3 49 "BondDesk$Schedule" "firstDays" "J", Cond.constantLong RX3 65 (10000), Cond.fieldLink RX3 19 "BondDesk$Schedule" "perYear" "I", Cond.methodLink RX0 85 yX0_isEnd, Cond.instanceMethod yX0_isEnd, Cond.selects RX0 yX0_isEnd yX0_isEnd, Cond.code yX0_isEnd cX0_isEnd 2 (some .boolean), Cond.methodLink RX0 88 yX0_sunkOn, Cond.instanceMethod yX0_sunkOn, Cond.selects RX0 yX0_sunkOn yX0_sunkOn, Cond.code yX0_sunkOn cX0_sunkOn 4 (some .int), Cond.fieldLink RX0 70 "BondDesk$Bond" "sinkFrom" "I", Cond.fieldLink RX0 73 "BondDesk$Bond" "sinkPart" "I", Cond.methodLink RX0 76 Lib.Math.min.name, Cond.static Lib.Math.min.name]
def wsX4_digest_r5 : List Cond := [Cond.initialized "java/lang/Math", Cond.code Lib.Math.min.name Lib.Math.min.code 2 (some .int), Cond.methodLink RX4 306 yX0_addTo, Cond.instanceMethod yX0_addTo, Cond.selects RX0 yX0_addTo yX0_addTo, Cond.code yX0_addTo cX0_addTo 7 (some .long), Cond.constantLong RX0 169 (31), Cond.methodLink RX0 171 yX0_tell, Cond.instanceMethod yX0_tell, Cond.selects RX0 yX0_tell yX0_tell, Cond.code yX0_tell cX0_tell 2 (some .int), Cond.fieldLink RX0 31 "BondDesk$Schedule" "issue" "I", Cond.fieldLink RX0 42 "BondDesk$Schedule" "end" "I", Cond.fieldLink RX0 163 "BondDesk$Schedule" "rate" "I", Cond.fieldLink RX0 166 "BondDesk$Schedule" "way" "I", Cond.fieldLink RX0 15 "BondDesk$Bond" "factor" "I", Cond.fieldLink RX0 25 "BondDesk$Bond" "next" "I", Cond.fieldLink RX0 147 "BondDesk$Bond" "pieces" "I", Cond.methodLink RX0 58 yX0_face, Cond.instanceMethod yX0_face, Cond.selects RX0 yX0_face yX0_face, Cond.code yX0_face cX0_face 1 (some .long), Cond.methodLink RX0 174 yX0_accruedOn, Cond.instanceMethod yX0_accruedOn]
def wsX4_digest_r6 : List Cond := [Cond.selects RX0 yX0_accruedOn yX0_accruedOn, Cond.code yX0_accruedOn cX0_accruedOn 2 (some .long), Cond.methodLink RX0 62 yX3_accruedFor, Cond.instanceMethod yX3_accruedFor, Cond.selects RX3 yX3_accruedFor yX3_accruedFor, Cond.code yX3_accruedFor cX3_accruedFor 7 (some .long), Cond.methodLink RX3 67 yX3_firstBehind, Cond.methodLink RX3 53 yX3_yearOfPeriod, Cond.instanceMethod yX3_yearOfPeriod, Cond.selects RX3 yX3_yearOfPeriod yX3_yearOfPeriod, Cond.code yX3_yearOfPeriod cX3_yearOfPeriod 3 (some .long), Cond.fieldLink RX3 22 "BondDesk$Schedule" "way" "I", Cond.constantLong RX3 80 (3650000), Cond.constantLong RX3 82 (3600000), Cond.methodLink RX3 77 yX1_daysBetween, Cond.methodLink RX3 71 yX3_beginOf, Cond.instanceMethod yX3_beginOf, Cond.selects RX3 yX3_beginOf yX3_beginOf, Cond.code yX3_beginOf cX3_beginOf 2 (some .int), Cond.methodLink RX3 45 yX3_daysCounted, Cond.instanceMethod yX3_daysCounted, Cond.selects RX3 yX3_daysCounted yX3_daysCounted, Cond.code yX3_daysCounted cX3_daysCounted 3 (some .long), Cond.methodLink RX3 74 yX1_daysOf30]
def wsX4_digest_r7 : List Cond := [Cond.static yX1_daysOf30, Cond.code yX1_daysOf30 cX1_daysOf30 4 (some .int), Cond.methodLink RX1 34 Lib.Math.min.name, Cond.methodLink RX1 17 yX1_dayOf, Cond.static yX1_dayOf, Cond.code yX1_dayOf cX1_dayOf 1 (some .int), Cond.methodLink RX1 20 yX1_yearOf, Cond.static yX1_yearOf, Cond.code yX1_yearOf cX1_yearOf 1 (some .int), Cond.methodLink RX1 13 yX1_monthOf, Cond.static yX1_monthOf, Cond.code yX1_monthOf cX1_monthOf 1 (some .int)]
def wsX4_digest : List Cond := .code yX4_digest cX4_digest 7 (some .long) :: ((wsX4_digest_r1 ++ (wsX4_digest_r2 ++ (wsX4_digest_r3 ++ (wsX4_digest_r4 ++ (wsX4_digest_r5 ++ (wsX4_digest_r6 ++ wsX4_digest_r7)))))) ++ wsX40 ++ wsX20 ++ wsX00 ++ wsX30)
def wsX5_length : List Cond := .code yX5_length cX5_length 2 (some .int) :: ([])
def wsX5_number : List Cond := .code yX5_number cX5_number 4 (some .int) :: ([.methodLink RX5 50 yX5_length, .static yX5_length, .initialized RX5, .code yX5_length cX5_length 2 (some .int)])
def wsX5_init : List Cond := .code yX5_init cX5_init 1 none :: ([.methodLink RX5 1 objectInit, .instanceMethod objectInit, .code objectInit ⟨#[0xb1]⟩ 1 none, .constant RX5 7 (20260101), .fieldLink RX5 14 "BondDeskModel" "today" "I", .constantLong RX5 18 (200000000), .fieldLink RX5 20 "BondDeskModel" "cash" "J", .fieldLink RX5 24 "BondDeskModel" "rate" "I", .arrayClass .int, .fieldLink RX5 27 "BondDeskModel" "holiday" "[I", .fieldLink RX5 31 "BondDeskModel" "of" "[I", .fieldLink RX5 34 "BondDeskModel" "day" "[I", .arrayClass .long, .fieldLink RX5 37 "BondDeskModel" "paid" "[J", .methodLink RX5 8 yX5_number, .static yX5_number, .initialized RX5, .code yX5_number cX5_number 4 (some .int), .methodLink RX5 50 yX5_length, .static yX5_length, .code yX5_length cX5_length 2 (some .int)] ++ wsX50)
def wsX5_thrown : List Cond := .code yX5_thrown cX5_thrown 1 (some .int) :: ([.fieldLink RX5 41 "BondDeskModel" "thrown" "I"] ++ wsX50)
def wsX5_no : List Cond := .code yX5_no cX5_no 2 (some .int) :: ([.fieldLink RX5 41 "BondDeskModel" "thrown" "I"] ++ wsX50)
def wsX5_isIn : List Cond := .code yX5_isIn cX5_isIn 3 (some .boolean) :: ([])
def wsX5_isDate : List Cond := .code yX5_isDate cX5_isDate 2 (some .boolean) :: ([.constant RX5 44 (20160101), .constant RX5 45 (20661231), .methodLink RX5 46 yX5_isIn, .static yX5_isIn, .initialized RX5, .code yX5_isIn cX5_isIn 3 (some .boolean), .methodLink RX5 50 yX5_length, .static yX5_length, .code yX5_length cX5_length 2 (some .int)])
def wsX5_date : List Cond := .code yX5_date cX5_date 4 (some .int) :: ([.methodLink RX5 50 yX5_length, .static yX5_length, .initialized RX5, .code yX5_length cX5_length 2 (some .int)])
def wsX5_weekday : List Cond := .code yX5_weekday cX5_weekday 2 (some .int) :: ([])
def wsX5_isWorking : List Cond := .code yX5_isWorking cX5_isWorking 4 (some .boolean) :: ([.fieldLink RX5 57 "BondDeskModel" "holidays" "I", .fieldLink RX5 27 "BondDeskModel" "holiday" "[I", .methodLink RX5 54 yX5_weekday, .static yX5_weekday, .initialized RX5, .code yX5_weekday cX5_weekday 2 (some .int)] ++ wsX50)
def wsX5_firstWorking : List Cond := .code yX5_firstWorking cX5_firstWorking 3 (some .int) :: ([.methodLink RX5 60 yX5_isWorking, .instanceMethod yX5_isWorking, .selects RX5 yX5_isWorking yX5_isWorking, .initialized RX5, .code yX5_isWorking cX5_isWorking 4 (some .boolean), .fieldLink RX5 57 "BondDeskModel" "holidays" "I", .fieldLink RX5 27 "BondDeskModel" "holiday" "[I", .methodLink RX5 54 yX5_weekday, .static yX5_weekday, .code yX5_weekday cX5_weekday 2 (some .int)] ++ wsX50)
def wsX5_later : List Cond := .code yX5_later cX5_later 4 (some .int) :: ([.fieldLink RX5 41 "BondDeskModel" "thrown" "I", .constant RX5 45 (20661231), .methodLink RX5 64 yX5_isDate, .static yX5_isDate, .initialized RX5, .code yX5_isDate cX5_isDate 2 (some .boolean), .constant RX5 44 (20160101), .methodLink RX5 46 yX5_isIn, .static yX5_isIn, .code yX5_isIn cX5_isIn 3 (some .boolean), .methodLink RX5 50 yX5_length, .static yX5_length, .code yX5_length cX5_length 2 (some .int), .methodLink RX5 67 yX5_no, .instanceMethod yX5_no, .selects RX5 yX5_no yX5_no, .code yX5_no cX5_no 2 (some .int), .methodLink RX5 8 yX5_number, .static yX5_number, .code yX5_number cX5_number 4 (some .int), .methodLink RX5 70 yX5_date, .static yX5_date, .code yX5_date cX5_date 4 (some .int)] ++ wsX50)
def wsX5_weekday_ : List Cond := .code yX5_weekday_ cX5_weekday_ 2 (some .int) :: ([.fieldLink RX5 41 "BondDeskModel" "thrown" "I", .methodLink RX5 64 yX5_isDate, .static yX5_isDate, .initialized RX5, .code yX5_isDate cX5_isDate 2 (some .boolean), .constant RX5 44 (20160101), .constant RX5 45 (20661231), .methodLink RX5 46 yX5_isIn, .static yX5_isIn, .code yX5_isIn cX5_isIn 3 (some .boolean), .methodLink RX5 50 yX5_length, .static yX5_length, .code yX5_length cX5_length 2 (some .int), .methodLink RX5 8 yX5_number, .static yX5_number, .code yX5_number cX5_number 4 (some .int), .methodLink RX5 54 yX5_weekday, .static yX5_weekday, .code yX5_weekday cX5_weekday 2 (some .int), .methodLink RX5 67 yX5_no, .instanceMethod yX5_no, .selects RX5 yX5_no yX5_no, .code yX5_no cX5_no 2 (some .int)] ++ wsX50)
def wsX5_addHoliday : List Cond := .code yX5_addHoliday cX5_addHoliday 4 (some .int) :: ([.fieldLink RX5 41 "BondDeskModel" "thrown" "I", .fieldLink RX5 57 "BondDeskModel" "holidays" "I", .fieldLink RX5 27 "BondDeskModel" "holiday" "[I", .methodLink RX5 64 yX5_isDate, .static yX5_isDate, .initialized RX5, .code yX5_isDate cX5_isDate 2 (some .boolean), .constant RX5 44 (20160101), .constant RX5 45 (20661231), .methodLink RX5 46 yX5_isIn, .static yX5_isIn, .code yX5_isIn cX5_isIn 3 (some .boolean), .methodLink RX5 50 yX5_length, .static yX5_length, .code yX5_length cX5_length 2 (some .int), .methodLink RX5 67 yX5_no, .instanceMethod yX5_no, .selects RX5 yX5_no yX5_no, .code yX5_no cX5_no 2 (some .int), .methodLink RX5 8 yX5_number, .static yX5_number, .code yX5_number cX5_number 4 (some .int)] ++ wsX50)
def wsX5_working_r1 : List Cond := [Cond.fieldLink RX5 41 "BondDeskModel" "thrown" "I", Cond.constant RX5 73 (20661101), Cond.methodLink RX5 64 yX5_isDate, Cond.static yX5_isDate, Cond.initialized RX5, Cond.code yX5_isDate cX5_isDate 2 (some .boolean), Cond.constant RX5 44 (20160101), Cond.constant RX5 45 (20661231), Cond.methodLink RX5 46 yX5_isIn, Cond.static yX5_isIn, Cond.code yX5_isIn cX5_isIn 3 (some .boolean), Cond.methodLink RX5 50 yX5_length, Cond.static yX5_length, Cond.code yX5_length cX5_length 2 (some .int), Cond.methodLink RX5 8 yX5_number, Cond.static yX5_number, Cond.code yX5_number cX5_number 4 (some .int), Cond.methodLink RX5 74 yX5_firstWorking, Cond.instanceMethod yX5_firstWorking, Cond.selects RX5 yX5_firstWorking yX5_firstWorking, Cond.code yX5_firstWorking cX5_firstWorking 3 (some .int), Cond.methodLink RX5 60 yX5_isWorking, Cond.instanceMethod yX5_isWorking, Cond.selects RX5 yX5_isWorking yX5_isWorking]
def wsX5_working_r2 : List Cond := [Cond.code yX5_isWorking cX5_isWorking 4 (some .boolean), Cond.fieldLink RX5 57 "BondDeskModel" "holidays" "I", Cond.fieldLink RX5 27 "BondDeskModel" "holiday" "[I", Cond.methodLink RX5 54 yX5_weekday, Cond.static yX5_weekday, Cond.code yX5_weekday cX5_weekday 2 (some .int), Cond.methodLink RX5 70 yX5_date, Cond.static yX5_date, Cond.code yX5_date cX5_date 4 (some .int), Cond.methodLink RX5 67 yX5_no, Cond.instanceMethod yX5_no, Cond.selects RX5 yX5_no yX5_no, Cond.code yX5_no cX5_no 2 (some .int)]
def wsX5_working : List Cond := .code yX5_working cX5_working 2 (some .int) :: ((wsX5_working_r1 ++ wsX5_working_r2) ++ wsX50)
def wsX5_isBond : List Cond := .code yX5_isBond cX5_isBond 2 (some .boolean) :: ([.fieldLink RX5 77 "BondDeskModel" "bonds" "I", .methodLink RX5 46 yX5_isIn, .static yX5_isIn, .initialized RX5, .code yX5_isIn cX5_isIn 3 (some .boolean)] ++ wsX50)
def wsX5_own : List Cond := .code yX5_own cX5_own 3 (some .int) :: ([.fieldLink RX5 31 "BondDeskModel" "of" "[I"] ++ wsX50)
def wsX5_couponDay : List Cond := .code yX5_couponDay cX5_couponDay 3 (some .int) :: ([.fieldLink RX5 34 "BondDeskModel" "day" "[I"] ++ wsX50)
def wsX5_moved : List Cond := .code yX5_moved cX5_moved 6 (some .int) :: ([.methodLink RX5 80 Lib.Math.min.name, .static Lib.Math.min.name, .initialized "java/lang/Math", .code Lib.Math.min.name Lib.Math.min.code 2 (some .int), .methodLink RX5 50 yX5_length, .static yX5_length, .initialized RX5, .code yX5_length cX5_length 2 (some .int)])
def wsX5_addBond_r1 : List Cond := [Cond.fieldLink RX5 41 "BondDeskModel" "thrown" "I", Cond.constant RX5 73 (20661101), Cond.fieldLink RX5 14 "BondDeskModel" "today" "I", Cond.constant RX5 44 (20160101), Cond.fieldLink RX5 77 "BondDeskModel" "bonds" "I", Cond.fieldLink RX5 34 "BondDeskModel" "day" "[I", Cond.arrayClass .int, Cond.fieldLink RX5 31 "BondDeskModel" "of" "[I", Cond.methodLink RX5 88 arraycopyName, Cond.native arraycopyName, Cond.static arraycopyName, Cond.initialized "java/lang/System", Cond.methodLink RX5 64 yX5_isDate, Cond.static yX5_isDate, Cond.initialized RX5, Cond.code yX5_isDate cX5_isDate 2 (some .boolean), Cond.constant RX5 45 (20661231), Cond.methodLink RX5 46 yX5_isIn, Cond.static yX5_isIn, Cond.code yX5_isIn cX5_isIn 3 (some .boolean), Cond.methodLink RX5 50 yX5_length, Cond.static yX5_length, Cond.code yX5_length cX5_length 2 (some .int), Cond.methodLink RX5 8 yX5_number]
def wsX5_addBond_r2 : List Cond := [Cond.static yX5_number, Cond.code yX5_number cX5_number 4 (some .int), Cond.methodLink RX5 67 yX5_no, Cond.instanceMethod yX5_no, Cond.selects RX5 yX5_no yX5_no, Cond.code yX5_no cX5_no 2 (some .int), Cond.methodLink RX5 85 yX5_moved, Cond.static yX5_moved, Cond.code yX5_moved cX5_moved 6 (some .int), Cond.methodLink RX5 80 Lib.Math.min.name, Cond.static Lib.Math.min.name, Cond.initialized "java/lang/Math", Cond.code Lib.Math.min.name Lib.Math.min.code 2 (some .int)]
def wsX5_addBond : List Cond := .code yX5_addBond cX5_addBond 9 (some .int) :: ((wsX5_addBond_r1 ++ wsX5_addBond_r2) ++ wsX50)
def wsX5_isThere : List Cond := .code yX5_isThere cX5_isThere 2 (some .boolean) :: ([.methodLink RX5 94 yX5_own, .instanceMethod yX5_own, .selects RX5 yX5_own yX5_own, .initialized RX5, .code yX5_own cX5_own 3 (some .int), .fieldLink RX5 31 "BondDeskModel" "of" "[I"] ++ wsX50)
def wsX5_isSunk : List Cond := .code yX5_isSunk cX5_isSunk 3 (some .boolean) :: ([.methodLink RX5 94 yX5_own, .instanceMethod yX5_own, .selects RX5 yX5_own yX5_own, .initialized RX5, .code yX5_own cX5_own 3 (some .int), .fieldLink RX5 31 "BondDeskModel" "of" "[I", .methodLink RX5 97 yX5_couponDay, .instanceMethod yX5_couponDay, .selects RX5 yX5_couponDay yX5_couponDay, .code yX5_couponDay cX5_couponDay 3 (some .int), .fieldLink RX5 34 "BondDeskModel" "day" "[I"] ++ wsX50)
def wsX5_isCalled : List Cond := .code yX5_isCalled cX5_isCalled 3 (some .boolean) :: ([.methodLink RX5 94 yX5_own, .instanceMethod yX5_own, .selects RX5 yX5_own yX5_own, .initialized RX5, .code yX5_own cX5_own 3 (some .int), .fieldLink RX5 31 "BondDeskModel" "of" "[I", .methodLink RX5 97 yX5_couponDay, .instanceMethod yX5_couponDay, .selects RX5 yX5_couponDay yX5_couponDay, .code yX5_couponDay cX5_couponDay 3 (some .int), .fieldLink RX5 34 "BondDeskModel" "day" "[I"] ++ wsX50)
def wsX5_leftBehind : List Cond := .code yX5_leftBehind cX5_leftBehind 5 (some .int) :: ([.methodLink RX5 104 Lib.Math.max.name, .static Lib.Math.max.name, .initialized "java/lang/Math", .code Lib.Math.max.name Lib.Math.max.code 2 (some .int), .methodLink RX5 94 yX5_own, .instanceMethod yX5_own, .selects RX5 yX5_own yX5_own, .initialized RX5, .code yX5_own cX5_own 3 (some .int), .fieldLink RX5 31 "BondDeskModel" "of" "[I", .methodLink RX5 100 yX5_isSunk, .instanceMethod yX5_isSunk, .selects RX5 yX5_isSunk yX5_isSunk, .code yX5_isSunk cX5_isSunk 3 (some .boolean), .methodLink RX5 97 yX5_couponDay, .instanceMethod yX5_couponDay, .selects RX5 yX5_couponDay yX5_couponDay, .code yX5_couponDay cX5_couponDay 3 (some .int), .fieldLink RX5 34 "BondDeskModel" "day" "[I"] ++ wsX50)
def wsX5_setSink_r1 : List Cond := [Cond.fieldLink RX5 41 "BondDeskModel" "thrown" "I", Cond.fieldLink RX5 31 "BondDeskModel" "of" "[I", Cond.methodLink RX5 107 yX5_isBond, Cond.instanceMethod yX5_isBond, Cond.selects RX5 yX5_isBond yX5_isBond, Cond.initialized RX5, Cond.code yX5_isBond cX5_isBond 2 (some .boolean), Cond.fieldLink RX5 77 "BondDeskModel" "bonds" "I", Cond.methodLink RX5 46 yX5_isIn, Cond.static yX5_isIn, Cond.code yX5_isIn cX5_isIn 3 (some .boolean), Cond.methodLink RX5 67 yX5_no, Cond.instanceMethod yX5_no, Cond.selects RX5 yX5_no yX5_no, Cond.code yX5_no cX5_no 2 (some .int), Cond.methodLink RX5 64 yX5_isDate, Cond.static yX5_isDate, Cond.code yX5_isDate cX5_isDate 2 (some .boolean), Cond.constant RX5 44 (20160101), Cond.constant RX5 45 (20661231), Cond.methodLink RX5 50 yX5_length, Cond.static yX5_length, Cond.code yX5_length cX5_length 2 (some .int), Cond.methodLink RX5 110 yX5_isThere]
def wsX5_setSink_r2 : List Cond := [Cond.instanceMethod yX5_isThere, Cond.selects RX5 yX5_isThere yX5_isThere, Cond.code yX5_isThere cX5_isThere 2 (some .boolean), Cond.methodLink RX5 94 yX5_own, Cond.instanceMethod yX5_own, Cond.selects RX5 yX5_own yX5_own, Cond.code yX5_own cX5_own 3 (some .int), Cond.methodLink RX5 8 yX5_number, Cond.static yX5_number, Cond.code yX5_number cX5_number 4 (some .int), Cond.methodLink RX5 113 yX5_leftBehind, Cond.instanceMethod yX5_leftBehind, Cond.selects RX5 yX5_leftBehind yX5_leftBehind, Cond.code yX5_leftBehind cX5_leftBehind 5 (some .int), Cond.methodLink RX5 104 Lib.Math.max.name, Cond.static Lib.Math.max.name, Cond.initialized "java/lang/Math", Cond.code Lib.Math.max.name Lib.Math.max.code 2 (some .int), Cond.methodLink RX5 100 yX5_isSunk, Cond.instanceMethod yX5_isSunk, Cond.selects RX5 yX5_isSunk yX5_isSunk, Cond.code yX5_isSunk cX5_isSunk 3 (some .boolean), Cond.methodLink RX5 97 yX5_couponDay, Cond.instanceMethod yX5_couponDay]
def wsX5_setSink_r3 : List Cond := [Cond.selects RX5 yX5_couponDay yX5_couponDay, Cond.code yX5_couponDay cX5_couponDay 3 (some .int), Cond.fieldLink RX5 34 "BondDeskModel" "day" "[I"]
def wsX5_setSink : List Cond := .code yX5_setSink cX5_setSink 4 (some .int) :: ((wsX5_setSink_r1 ++ (wsX5_setSink_r2 ++ wsX5_setSink_r3)) ++ wsX50)
def wsX5_firstCall : List Cond := .code yX5_firstCall cX5_firstCall 3 (some .int) :: ([.methodLink RX5 110 yX5_isThere, .instanceMethod yX5_isThere, .selects RX5 yX5_isThere yX5_isThere, .initialized RX5, .code yX5_isThere cX5_isThere 2 (some .boolean), .methodLink RX5 94 yX5_own, .instanceMethod yX5_own, .selects RX5 yX5_own yX5_own, .code yX5_own cX5_own 3 (some .int), .fieldLink RX5 31 "BondDeskModel" "of" "[I", .methodLink RX5 116 yX5_isCalled, .instanceMethod yX5_isCalled, .selects RX5 yX5_isCalled yX5_isCalled, .code yX5_isCalled cX5_isCalled 3 (some .boolean), .methodLink RX5 97 yX5_couponDay, .instanceMethod yX5_couponDay, .selects RX5 yX5_couponDay yX5_couponDay, .code yX5_couponDay cX5_couponDay 3 (some .int), .fieldLink RX5 34 "BondDeskModel" "day" "[I"] ++ wsX50)
def wsX5_setCall_r1 : List Cond := [Cond.fieldLink RX5 41 "BondDeskModel" "thrown" "I", Cond.fieldLink RX5 31 "BondDeskModel" "of" "[I", Cond.methodLink RX5 107 yX5_isBond, Cond.instanceMethod yX5_isBond, Cond.selects RX5 yX5_isBond yX5_isBond, Cond.initialized RX5, Cond.code yX5_isBond cX5_isBond 2 (some .boolean), Cond.fieldLink RX5 77 "BondDeskModel" "bonds" "I", Cond.methodLink RX5 46 yX5_isIn, Cond.static yX5_isIn, Cond.code yX5_isIn cX5_isIn 3 (some .boolean), Cond.methodLink RX5 67 yX5_no, Cond.instanceMethod yX5_no, Cond.selects RX5 yX5_no yX5_no, Cond.code yX5_no cX5_no 2 (some .int), Cond.methodLink RX5 64 yX5_isDate, Cond.static yX5_isDate, Cond.code yX5_isDate cX5_isDate 2 (some .boolean), Cond.constant RX5 44 (20160101), Cond.constant RX5 45 (20661231), Cond.methodLink RX5 50 yX5_length, Cond.static yX5_length, Cond.code yX5_length cX5_length 2 (some .int), Cond.methodLink RX5 110 yX5_isThere]
def wsX5_setCall_r2 : List Cond := [Cond.instanceMethod yX5_isThere, Cond.selects RX5 yX5_isThere yX5_isThere, Cond.code yX5_isThere cX5_isThere 2 (some .boolean), Cond.methodLink RX5 94 yX5_own, Cond.instanceMethod yX5_own, Cond.selects RX5 yX5_own yX5_own, Cond.code yX5_own cX5_own 3 (some .int), Cond.methodLink RX5 8 yX5_number, Cond.static yX5_number, Cond.code yX5_number cX5_number 4 (some .int), Cond.methodLink RX5 119 yX5_firstCall, Cond.instanceMethod yX5_firstCall, Cond.selects RX5 yX5_firstCall yX5_firstCall, Cond.code yX5_firstCall cX5_firstCall 3 (some .int), Cond.methodLink RX5 116 yX5_isCalled, Cond.instanceMethod yX5_isCalled, Cond.selects RX5 yX5_isCalled yX5_isCalled, Cond.code yX5_isCalled cX5_isCalled 3 (some .boolean), Cond.methodLink RX5 97 yX5_couponDay, Cond.instanceMethod yX5_couponDay, Cond.selects RX5 yX5_couponDay yX5_couponDay, Cond.code yX5_couponDay cX5_couponDay 3 (some .int), Cond.fieldLink RX5 34 "BondDeskModel" "day" "[I"]
def wsX5_setCall : List Cond := .code yX5_setCall cX5_setCall 4 (some .int) :: ((wsX5_setCall_r1 ++ wsX5_setCall_r2) ++ wsX50)
def wsX5_setRate : List Cond := .code yX5_setRate cX5_setRate 3 (some .int) :: ([.fieldLink RX5 41 "BondDeskModel" "thrown" "I", .fieldLink RX5 24 "BondDeskModel" "rate" "I", .methodLink RX5 46 yX5_isIn, .static yX5_isIn, .initialized RX5, .code yX5_isIn cX5_isIn 3 (some .boolean), .methodLink RX5 67 yX5_no, .instanceMethod yX5_no, .selects RX5 yX5_no yX5_no, .code yX5_no cX5_no 2 (some .int)] ++ wsX50)
def wsX5_told : List Cond := .code yX5_told cX5_told 3 (some .int) :: ([.methodLink RX5 94 yX5_own, .instanceMethod yX5_own, .selects RX5 yX5_own yX5_own, .initialized RX5, .code yX5_own cX5_own 3 (some .int), .fieldLink RX5 31 "BondDeskModel" "of" "[I", .methodLink RX5 70 yX5_date, .static yX5_date, .code yX5_date cX5_date 4 (some .int), .methodLink RX5 50 yX5_length, .static yX5_length, .code yX5_length cX5_length 2 (some .int), .methodLink RX5 110 yX5_isThere, .instanceMethod yX5_isThere, .selects RX5 yX5_isThere yX5_isThere, .code yX5_isThere cX5_isThere 2 (some .boolean)] ++ wsX50)
def wsX5_bond_r1 : List Cond := [Cond.fieldLink RX5 41 "BondDeskModel" "thrown" "I", Cond.methodLink RX5 107 yX5_isBond, Cond.instanceMethod yX5_isBond, Cond.selects RX5 yX5_isBond yX5_isBond, Cond.initialized RX5, Cond.code yX5_isBond cX5_isBond 2 (some .boolean), Cond.fieldLink RX5 77 "BondDeskModel" "bonds" "I", Cond.methodLink RX5 46 yX5_isIn, Cond.static yX5_isIn, Cond.code yX5_isIn cX5_isIn 3 (some .boolean), Cond.methodLink RX5 122 yX5_told, Cond.instanceMethod yX5_told, Cond.selects RX5 yX5_told yX5_told, Cond.code yX5_told cX5_told 3 (some .int), Cond.methodLink RX5 94 yX5_own, Cond.instanceMethod yX5_own, Cond.selects RX5 yX5_own yX5_own, Cond.code yX5_own cX5_own 3 (some .int), Cond.fieldLink RX5 31 "BondDeskModel" "of" "[I", Cond.methodLink RX5 70 yX5_date, Cond.static yX5_date, Cond.code yX5_date cX5_date 4 (some .int), Cond.methodLink RX5 50 yX5_length, Cond.static yX5_length]
def wsX5_bond_r2 : List Cond := [Cond.code yX5_length cX5_length 2 (some .int), Cond.methodLink RX5 110 yX5_isThere, Cond.instanceMethod yX5_isThere, Cond.selects RX5 yX5_isThere yX5_isThere, Cond.code yX5_isThere cX5_isThere 2 (some .boolean), Cond.methodLink RX5 67 yX5_no, Cond.instanceMethod yX5_no, Cond.selects RX5 yX5_no yX5_no, Cond.code yX5_no cX5_no 2 (some .int)]
def wsX5_bond : List Cond := .code yX5_bond cX5_bond 3 (some .int) :: ((wsX5_bond_r1 ++ wsX5_bond_r2) ++ wsX50)
def wsX5_thirty : List Cond := .code yX5_thirty cX5_thirty 4 (some .int) :: ([.methodLink RX5 80 Lib.Math.min.name, .static Lib.Math.min.name, .initialized "java/lang/Math", .code Lib.Math.min.name Lib.Math.min.code 2 (some .int)])
def wsX5_interest_r1 : List Cond := [Cond.constantLong RX5 128 (3600000), Cond.constantLong RX5 130 (3650000), Cond.constantLong RX5 132 (10000), Cond.methodLink RX5 94 yX5_own, Cond.instanceMethod yX5_own, Cond.selects RX5 yX5_own yX5_own, Cond.initialized RX5, Cond.code yX5_own cX5_own 3 (some .int), Cond.fieldLink RX5 31 "BondDeskModel" "of" "[I", Cond.methodLink RX5 70 yX5_date, Cond.static yX5_date, Cond.code yX5_date cX5_date 4 (some .int), Cond.methodLink RX5 50 yX5_length, Cond.static yX5_length, Cond.code yX5_length cX5_length 2 (some .int), Cond.methodLink RX5 125 yX5_thirty, Cond.static yX5_thirty, Cond.code yX5_thirty cX5_thirty 4 (some .int), Cond.methodLink RX5 80 Lib.Math.min.name, Cond.static Lib.Math.min.name, Cond.initialized "java/lang/Math", Cond.code Lib.Math.min.name Lib.Math.min.code 2 (some .int), Cond.methodLink RX5 97 yX5_couponDay, Cond.instanceMethod yX5_couponDay]
def wsX5_interest_r2 : List Cond := [Cond.selects RX5 yX5_couponDay yX5_couponDay, Cond.code yX5_couponDay cX5_couponDay 3 (some .int), Cond.fieldLink RX5 34 "BondDeskModel" "day" "[I"]
def wsX5_interest : List Cond := .code yX5_interest cX5_interest 8 (some .int) :: ((wsX5_interest_r1 ++ wsX5_interest_r2) ++ wsX50)
def wsX5_beginning : List Cond := .code yX5_beginning cX5_beginning 3 (some .int) :: ([.methodLink RX5 104 Lib.Math.max.name, .static Lib.Math.max.name, .initialized "java/lang/Math", .code Lib.Math.max.name Lib.Math.max.code 2 (some .int), .methodLink RX5 94 yX5_own, .instanceMethod yX5_own, .selects RX5 yX5_own yX5_own, .initialized RX5, .code yX5_own cX5_own 3 (some .int), .fieldLink RX5 31 "BondDeskModel" "of" "[I", .methodLink RX5 97 yX5_couponDay, .instanceMethod yX5_couponDay, .selects RX5 yX5_couponDay yX5_couponDay, .code yX5_couponDay cX5_couponDay 3 (some .int), .fieldLink RX5 34 "BondDeskModel" "day" "[I"] ++ wsX50)
def wsX5_coupon_r1 : List Cond := [Cond.constantLong RX5 132 (10000), Cond.methodLink RX5 97 yX5_couponDay, Cond.instanceMethod yX5_couponDay, Cond.selects RX5 yX5_couponDay yX5_couponDay, Cond.initialized RX5, Cond.code yX5_couponDay cX5_couponDay 3 (some .int), Cond.fieldLink RX5 34 "BondDeskModel" "day" "[I", Cond.methodLink RX5 94 yX5_own, Cond.instanceMethod yX5_own, Cond.selects RX5 yX5_own yX5_own, Cond.code yX5_own cX5_own 3 (some .int), Cond.fieldLink RX5 31 "BondDeskModel" "of" "[I", Cond.methodLink RX5 134 yX5_interest, Cond.instanceMethod yX5_interest, Cond.selects RX5 yX5_interest yX5_interest, Cond.code yX5_interest cX5_interest 8 (some .int), Cond.constantLong RX5 128 (3600000), Cond.constantLong RX5 130 (3650000), Cond.methodLink RX5 70 yX5_date, Cond.static yX5_date, Cond.code yX5_date cX5_date 4 (some .int), Cond.methodLink RX5 50 yX5_length, Cond.static yX5_length, Cond.code yX5_length cX5_length 2 (some .int)]
def wsX5_coupon_r2 : List Cond := [Cond.methodLink RX5 125 yX5_thirty, Cond.static yX5_thirty, Cond.code yX5_thirty cX5_thirty 4 (some .int), Cond.methodLink RX5 80 Lib.Math.min.name, Cond.static Lib.Math.min.name, Cond.initialized "java/lang/Math", Cond.code Lib.Math.min.name Lib.Math.min.code 2 (some .int)]
def wsX5_coupon : List Cond := .code yX5_coupon cX5_coupon 5 (some .int) :: ((wsX5_coupon_r1 ++ wsX5_coupon_r2) ++ wsX50)
def wsX5_couponTold_r1 : List Cond := [Cond.constantLong RX5 141 (100000), Cond.methodLink RX5 97 yX5_couponDay, Cond.instanceMethod yX5_couponDay, Cond.selects RX5 yX5_couponDay yX5_couponDay, Cond.initialized RX5, Cond.code yX5_couponDay cX5_couponDay 3 (some .int), Cond.fieldLink RX5 34 "BondDeskModel" "day" "[I", Cond.methodLink RX5 70 yX5_date, Cond.static yX5_date, Cond.code yX5_date cX5_date 4 (some .int), Cond.methodLink RX5 50 yX5_length, Cond.static yX5_length, Cond.code yX5_length cX5_length 2 (some .int), Cond.methodLink RX5 74 yX5_firstWorking, Cond.instanceMethod yX5_firstWorking, Cond.selects RX5 yX5_firstWorking yX5_firstWorking, Cond.code yX5_firstWorking cX5_firstWorking 3 (some .int), Cond.methodLink RX5 60 yX5_isWorking, Cond.instanceMethod yX5_isWorking, Cond.selects RX5 yX5_isWorking yX5_isWorking, Cond.code yX5_isWorking cX5_isWorking 4 (some .boolean), Cond.fieldLink RX5 57 "BondDeskModel" "holidays" "I", Cond.fieldLink RX5 27 "BondDeskModel" "holiday" "[I", Cond.methodLink RX5 54 yX5_weekday]
def wsX5_couponTold_r2 : List Cond := [Cond.static yX5_weekday, Cond.code yX5_weekday cX5_weekday 2 (some .int), Cond.methodLink RX5 138 yX5_beginning, Cond.instanceMethod yX5_beginning, Cond.selects RX5 yX5_beginning yX5_beginning, Cond.code yX5_beginning cX5_beginning 3 (some .int), Cond.methodLink RX5 104 Lib.Math.max.name, Cond.static Lib.Math.max.name, Cond.initialized "java/lang/Math", Cond.code Lib.Math.max.name Lib.Math.max.code 2 (some .int), Cond.methodLink RX5 94 yX5_own, Cond.instanceMethod yX5_own, Cond.selects RX5 yX5_own yX5_own, Cond.code yX5_own cX5_own 3 (some .int), Cond.fieldLink RX5 31 "BondDeskModel" "of" "[I", Cond.methodLink RX5 143 yX5_coupon, Cond.instanceMethod yX5_coupon, Cond.selects RX5 yX5_coupon yX5_coupon, Cond.code yX5_coupon cX5_coupon 5 (some .int), Cond.constantLong RX5 132 (10000), Cond.methodLink RX5 134 yX5_interest, Cond.instanceMethod yX5_interest, Cond.selects RX5 yX5_interest yX5_interest, Cond.code yX5_interest cX5_interest 8 (some .int)]
def wsX5_couponTold_r3 : List Cond := [Cond.constantLong RX5 128 (3600000), Cond.constantLong RX5 130 (3650000), Cond.methodLink RX5 125 yX5_thirty, Cond.static yX5_thirty, Cond.code yX5_thirty cX5_thirty 4 (some .int), Cond.methodLink RX5 80 Lib.Math.min.name, Cond.static Lib.Math.min.name, Cond.code Lib.Math.min.name Lib.Math.min.code 2 (some .int)]
def wsX5_couponTold : List Cond := .code yX5_couponTold cX5_couponTold 4 (some .int) :: ((wsX5_couponTold_r1 ++ (wsX5_couponTold_r2 ++ wsX5_couponTold_r3)) ++ wsX50)
def wsX5_coupon__r1 : List Cond := [Cond.fieldLink RX5 41 "BondDeskModel" "thrown" "I", Cond.methodLink RX5 107 yX5_isBond, Cond.instanceMethod yX5_isBond, Cond.selects RX5 yX5_isBond yX5_isBond, Cond.initialized RX5, Cond.code yX5_isBond cX5_isBond 2 (some .boolean), Cond.fieldLink RX5 77 "BondDeskModel" "bonds" "I", Cond.methodLink RX5 46 yX5_isIn, Cond.static yX5_isIn, Cond.code yX5_isIn cX5_isIn 3 (some .boolean), Cond.methodLink RX5 94 yX5_own, Cond.instanceMethod yX5_own, Cond.selects RX5 yX5_own yX5_own, Cond.code yX5_own cX5_own 3 (some .int), Cond.fieldLink RX5 31 "BondDeskModel" "of" "[I", Cond.methodLink RX5 147 yX5_couponTold, Cond.instanceMethod yX5_couponTold, Cond.selects RX5 yX5_couponTold yX5_couponTold, Cond.code yX5_couponTold cX5_couponTold 4 (some .int), Cond.constantLong RX5 141 (100000), Cond.methodLink RX5 97 yX5_couponDay, Cond.instanceMethod yX5_couponDay, Cond.selects RX5 yX5_couponDay yX5_couponDay, Cond.code yX5_couponDay cX5_couponDay 3 (some .int)]
def wsX5_coupon__r2 : List Cond := [Cond.fieldLink RX5 34 "BondDeskModel" "day" "[I", Cond.methodLink RX5 70 yX5_date, Cond.static yX5_date, Cond.code yX5_date cX5_date 4 (some .int), Cond.methodLink RX5 50 yX5_length, Cond.static yX5_length, Cond.code yX5_length cX5_length 2 (some .int), Cond.methodLink RX5 74 yX5_firstWorking, Cond.instanceMethod yX5_firstWorking, Cond.selects RX5 yX5_firstWorking yX5_firstWorking, Cond.code yX5_firstWorking cX5_firstWorking 3 (some .int), Cond.methodLink RX5 60 yX5_isWorking, Cond.instanceMethod yX5_isWorking, Cond.selects RX5 yX5_isWorking yX5_isWorking, Cond.code yX5_isWorking cX5_isWorking 4 (some .boolean), Cond.fieldLink RX5 57 "BondDeskModel" "holidays" "I", Cond.fieldLink RX5 27 "BondDeskModel" "holiday" "[I", Cond.methodLink RX5 54 yX5_weekday, Cond.static yX5_weekday, Cond.code yX5_weekday cX5_weekday 2 (some .int), Cond.methodLink RX5 138 yX5_beginning, Cond.instanceMethod yX5_beginning, Cond.selects RX5 yX5_beginning yX5_beginning, Cond.code yX5_beginning cX5_beginning 3 (some .int)]
def wsX5_coupon__r3 : List Cond := [Cond.methodLink RX5 104 Lib.Math.max.name, Cond.static Lib.Math.max.name, Cond.initialized "java/lang/Math", Cond.code Lib.Math.max.name Lib.Math.max.code 2 (some .int), Cond.methodLink RX5 143 yX5_coupon, Cond.instanceMethod yX5_coupon, Cond.selects RX5 yX5_coupon yX5_coupon, Cond.code yX5_coupon cX5_coupon 5 (some .int), Cond.constantLong RX5 132 (10000), Cond.methodLink RX5 134 yX5_interest, Cond.instanceMethod yX5_interest, Cond.selects RX5 yX5_interest yX5_interest, Cond.code yX5_interest cX5_interest 8 (some .int), Cond.constantLong RX5 128 (3600000), Cond.constantLong RX5 130 (3650000), Cond.methodLink RX5 125 yX5_thirty, Cond.static yX5_thirty, Cond.code yX5_thirty cX5_thirty 4 (some .int), Cond.methodLink RX5 80 Lib.Math.min.name, Cond.static Lib.Math.min.name, Cond.code Lib.Math.min.name Lib.Math.min.code 2 (some .int), Cond.methodLink RX5 67 yX5_no, Cond.instanceMethod yX5_no, Cond.selects RX5 yX5_no yX5_no]
def wsX5_coupon__r4 : List Cond := [Cond.code yX5_no cX5_no 2 (some .int)]
def wsX5_coupon_ : List Cond := .code yX5_coupon_ cX5_coupon_ 4 (some .int) :: ((wsX5_coupon__r1 ++ (wsX5_coupon__r2 ++ (wsX5_coupon__r3 ++ wsX5_coupon__r4))) ++ wsX50)
def wsX5_behind : List Cond := .code yX5_behind cX5_behind 4 (some .int) :: ([.methodLink RX5 94 yX5_own, .instanceMethod yX5_own, .selects RX5 yX5_own yX5_own, .initialized RX5, .code yX5_own cX5_own 3 (some .int), .fieldLink RX5 31 "BondDeskModel" "of" "[I", .methodLink RX5 97 yX5_couponDay, .instanceMethod yX5_couponDay, .selects RX5 yX5_couponDay yX5_couponDay, .code yX5_couponDay cX5_couponDay 3 (some .int), .fieldLink RX5 34 "BondDeskModel" "day" "[I"] ++ wsX50)
def wsX5_accruedOn_r1 : List Cond := [Cond.methodLink RX5 110 yX5_isThere, Cond.instanceMethod yX5_isThere, Cond.selects RX5 yX5_isThere yX5_isThere, Cond.initialized RX5, Cond.code yX5_isThere cX5_isThere 2 (some .boolean), Cond.methodLink RX5 94 yX5_own, Cond.instanceMethod yX5_own, Cond.selects RX5 yX5_own yX5_own, Cond.code yX5_own cX5_own 3 (some .int), Cond.fieldLink RX5 31 "BondDeskModel" "of" "[I", Cond.methodLink RX5 151 yX5_behind, Cond.instanceMethod yX5_behind, Cond.selects RX5 yX5_behind yX5_behind, Cond.code yX5_behind cX5_behind 4 (some .int), Cond.methodLink RX5 97 yX5_couponDay, Cond.instanceMethod yX5_couponDay, Cond.selects RX5 yX5_couponDay yX5_couponDay, Cond.code yX5_couponDay cX5_couponDay 3 (some .int), Cond.fieldLink RX5 34 "BondDeskModel" "day" "[I", Cond.methodLink RX5 138 yX5_beginning, Cond.instanceMethod yX5_beginning, Cond.selects RX5 yX5_beginning yX5_beginning, Cond.code yX5_beginning cX5_beginning 3 (some .int), Cond.methodLink RX5 104 Lib.Math.max.name]
def wsX5_accruedOn_r2 : List Cond := [Cond.static Lib.Math.max.name, Cond.initialized "java/lang/Math", Cond.code Lib.Math.max.name Lib.Math.max.code 2 (some .int), Cond.methodLink RX5 134 yX5_interest, Cond.instanceMethod yX5_interest, Cond.selects RX5 yX5_interest yX5_interest, Cond.code yX5_interest cX5_interest 8 (some .int), Cond.constantLong RX5 128 (3600000), Cond.constantLong RX5 130 (3650000), Cond.constantLong RX5 132 (10000), Cond.methodLink RX5 70 yX5_date, Cond.static yX5_date, Cond.code yX5_date cX5_date 4 (some .int), Cond.methodLink RX5 50 yX5_length, Cond.static yX5_length, Cond.code yX5_length cX5_length 2 (some .int), Cond.methodLink RX5 125 yX5_thirty, Cond.static yX5_thirty, Cond.code yX5_thirty cX5_thirty 4 (some .int), Cond.methodLink RX5 80 Lib.Math.min.name, Cond.static Lib.Math.min.name, Cond.code Lib.Math.min.name Lib.Math.min.code 2 (some .int)]
def wsX5_accruedOn : List Cond := .code yX5_accruedOn cX5_accruedOn 4 (some .int) :: ((wsX5_accruedOn_r1 ++ wsX5_accruedOn_r2) ++ wsX50)
def wsX5_accrued_r1 : List Cond := [Cond.fieldLink RX5 41 "BondDeskModel" "thrown" "I", Cond.methodLink RX5 107 yX5_isBond, Cond.instanceMethod yX5_isBond, Cond.selects RX5 yX5_isBond yX5_isBond, Cond.initialized RX5, Cond.code yX5_isBond cX5_isBond 2 (some .boolean), Cond.fieldLink RX5 77 "BondDeskModel" "bonds" "I", Cond.methodLink RX5 46 yX5_isIn, Cond.static yX5_isIn, Cond.code yX5_isIn cX5_isIn 3 (some .boolean), Cond.methodLink RX5 67 yX5_no, Cond.instanceMethod yX5_no, Cond.selects RX5 yX5_no yX5_no, Cond.code yX5_no cX5_no 2 (some .int), Cond.methodLink RX5 64 yX5_isDate, Cond.static yX5_isDate, Cond.code yX5_isDate cX5_isDate 2 (some .boolean), Cond.constant RX5 44 (20160101), Cond.constant RX5 45 (20661231), Cond.methodLink RX5 50 yX5_length, Cond.static yX5_length, Cond.code yX5_length cX5_length 2 (some .int), Cond.methodLink RX5 8 yX5_number, Cond.static yX5_number]
def wsX5_accrued_r2 : List Cond := [Cond.code yX5_number cX5_number 4 (some .int), Cond.methodLink RX5 154 yX5_accruedOn, Cond.instanceMethod yX5_accruedOn, Cond.selects RX5 yX5_accruedOn yX5_accruedOn, Cond.code yX5_accruedOn cX5_accruedOn 4 (some .int), Cond.methodLink RX5 110 yX5_isThere, Cond.instanceMethod yX5_isThere, Cond.selects RX5 yX5_isThere yX5_isThere, Cond.code yX5_isThere cX5_isThere 2 (some .boolean), Cond.methodLink RX5 94 yX5_own, Cond.instanceMethod yX5_own, Cond.selects RX5 yX5_own yX5_own, Cond.code yX5_own cX5_own 3 (some .int), Cond.fieldLink RX5 31 "BondDeskModel" "of" "[I", Cond.methodLink RX5 151 yX5_behind, Cond.instanceMethod yX5_behind, Cond.selects RX5 yX5_behind yX5_behind, Cond.code yX5_behind cX5_behind 4 (some .int), Cond.methodLink RX5 97 yX5_couponDay, Cond.instanceMethod yX5_couponDay, Cond.selects RX5 yX5_couponDay yX5_couponDay, Cond.code yX5_couponDay cX5_couponDay 3 (some .int), Cond.fieldLink RX5 34 "BondDeskModel" "day" "[I", Cond.methodLink RX5 138 yX5_beginning]
def wsX5_accrued_r3 : List Cond := [Cond.instanceMethod yX5_beginning, Cond.selects RX5 yX5_beginning yX5_beginning, Cond.code yX5_beginning cX5_beginning 3 (some .int), Cond.methodLink RX5 104 Lib.Math.max.name, Cond.static Lib.Math.max.name, Cond.initialized "java/lang/Math", Cond.code Lib.Math.max.name Lib.Math.max.code 2 (some .int), Cond.methodLink RX5 134 yX5_interest, Cond.instanceMethod yX5_interest, Cond.selects RX5 yX5_interest yX5_interest, Cond.code yX5_interest cX5_interest 8 (some .int), Cond.constantLong RX5 128 (3600000), Cond.constantLong RX5 130 (3650000), Cond.constantLong RX5 132 (10000), Cond.methodLink RX5 70 yX5_date, Cond.static yX5_date, Cond.code yX5_date cX5_date 4 (some .int), Cond.methodLink RX5 125 yX5_thirty, Cond.static yX5_thirty, Cond.code yX5_thirty cX5_thirty 4 (some .int), Cond.methodLink RX5 80 Lib.Math.min.name, Cond.static Lib.Math.min.name, Cond.code Lib.Math.min.name Lib.Math.min.code 2 (some .int)]
def wsX5_accrued : List Cond := .code yX5_accrued cX5_accrued 3 (some .int) :: ((wsX5_accrued_r1 ++ (wsX5_accrued_r2 ++ wsX5_accrued_r3)) ++ wsX50)
def wsX5_worthOn_r1 : List Cond := [Cond.constantLong RX5 132 (10000), Cond.constantLong RX5 157 (3650000000000000), Cond.constantLong RX5 130 (3650000), Cond.methodLink RX5 80 Lib.Math.min.name, Cond.static Lib.Math.min.name, Cond.initialized "java/lang/Math", Cond.code Lib.Math.min.name Lib.Math.min.code 2 (some .int), Cond.constantLong RX5 159 (10), Cond.constantLong RX5 161 (1000000000), Cond.methodLink RX5 151 yX5_behind, Cond.instanceMethod yX5_behind, Cond.selects RX5 yX5_behind yX5_behind, Cond.initialized RX5, Cond.code yX5_behind cX5_behind 4 (some .int), Cond.methodLink RX5 94 yX5_own, Cond.instanceMethod yX5_own, Cond.selects RX5 yX5_own yX5_own, Cond.code yX5_own cX5_own 3 (some .int), Cond.fieldLink RX5 31 "BondDeskModel" "of" "[I", Cond.methodLink RX5 97 yX5_couponDay, Cond.instanceMethod yX5_couponDay, Cond.selects RX5 yX5_couponDay yX5_couponDay, Cond.code yX5_couponDay cX5_couponDay 3 (some .int), Cond.fieldLink RX5 34 "BondDeskModel" "day" "[I"]
def wsX5_worthOn_r2 : List Cond := [Cond.methodLink RX5 100 yX5_isSunk, Cond.instanceMethod yX5_isSunk, Cond.selects RX5 yX5_isSunk yX5_isSunk, Cond.code yX5_isSunk cX5_isSunk 3 (some .boolean), Cond.methodLink RX5 143 yX5_coupon, Cond.instanceMethod yX5_coupon, Cond.selects RX5 yX5_coupon yX5_coupon, Cond.code yX5_coupon cX5_coupon 5 (some .int), Cond.methodLink RX5 134 yX5_interest, Cond.instanceMethod yX5_interest, Cond.selects RX5 yX5_interest yX5_interest, Cond.code yX5_interest cX5_interest 8 (some .int), Cond.constantLong RX5 128 (3600000), Cond.methodLink RX5 70 yX5_date, Cond.static yX5_date, Cond.code yX5_date cX5_date 4 (some .int), Cond.methodLink RX5 50 yX5_length, Cond.static yX5_length, Cond.code yX5_length cX5_length 2 (some .int), Cond.methodLink RX5 125 yX5_thirty, Cond.static yX5_thirty, Cond.code yX5_thirty cX5_thirty 4 (some .int)]
def wsX5_worthOn : List Cond := .code yX5_worthOn cX5_worthOn 15 (some .long) :: ((wsX5_worthOn_r1 ++ wsX5_worthOn_r2) ++ wsX50)
def wsX5_worthNow_r1 : List Cond := [Cond.fieldLink RX5 14 "BondDeskModel" "today" "I", Cond.methodLink RX5 110 yX5_isThere, Cond.instanceMethod yX5_isThere, Cond.selects RX5 yX5_isThere yX5_isThere, Cond.initialized RX5, Cond.code yX5_isThere cX5_isThere 2 (some .boolean), Cond.methodLink RX5 94 yX5_own, Cond.instanceMethod yX5_own, Cond.selects RX5 yX5_own yX5_own, Cond.code yX5_own cX5_own 3 (some .int), Cond.fieldLink RX5 31 "BondDeskModel" "of" "[I", Cond.methodLink RX5 163 yX5_worthOn, Cond.instanceMethod yX5_worthOn, Cond.selects RX5 yX5_worthOn yX5_worthOn, Cond.code yX5_worthOn cX5_worthOn 15 (some .long), Cond.constantLong RX5 132 (10000), Cond.constantLong RX5 157 (3650000000000000), Cond.constantLong RX5 130 (3650000), Cond.methodLink RX5 80 Lib.Math.min.name, Cond.static Lib.Math.min.name, Cond.initialized "java/lang/Math", Cond.code Lib.Math.min.name Lib.Math.min.code 2 (some .int), Cond.constantLong RX5 159 (10), Cond.constantLong RX5 161 (1000000000)]
def wsX5_worthNow_r2 : List Cond := [Cond.methodLink RX5 151 yX5_behind, Cond.instanceMethod yX5_behind, Cond.selects RX5 yX5_behind yX5_behind, Cond.code yX5_behind cX5_behind 4 (some .int), Cond.methodLink RX5 97 yX5_couponDay, Cond.instanceMethod yX5_couponDay, Cond.selects RX5 yX5_couponDay yX5_couponDay, Cond.code yX5_couponDay cX5_couponDay 3 (some .int), Cond.fieldLink RX5 34 "BondDeskModel" "day" "[I", Cond.methodLink RX5 100 yX5_isSunk, Cond.instanceMethod yX5_isSunk, Cond.selects RX5 yX5_isSunk yX5_isSunk, Cond.code yX5_isSunk cX5_isSunk 3 (some .boolean), Cond.methodLink RX5 143 yX5_coupon, Cond.instanceMethod yX5_coupon, Cond.selects RX5 yX5_coupon yX5_coupon, Cond.code yX5_coupon cX5_coupon 5 (some .int), Cond.methodLink RX5 134 yX5_interest, Cond.instanceMethod yX5_interest, Cond.selects RX5 yX5_interest yX5_interest, Cond.code yX5_interest cX5_interest 8 (some .int), Cond.constantLong RX5 128 (3600000), Cond.methodLink RX5 70 yX5_date, Cond.static yX5_date]
def wsX5_worthNow_r3 : List Cond := [Cond.code yX5_date cX5_date 4 (some .int), Cond.methodLink RX5 50 yX5_length, Cond.static yX5_length, Cond.code yX5_length cX5_length 2 (some .int), Cond.methodLink RX5 125 yX5_thirty, Cond.static yX5_thirty, Cond.code yX5_thirty cX5_thirty 4 (some .int)]
def wsX5_worthNow : List Cond := .code yX5_worthNow cX5_worthNow 3 (some .long) :: ((wsX5_worthNow_r1 ++ (wsX5_worthNow_r2 ++ wsX5_worthNow_r3)) ++ wsX50)
def wsX5_worth_r1 : List Cond := [Cond.fieldLink RX5 41 "BondDeskModel" "thrown" "I", Cond.methodLink RX5 107 yX5_isBond, Cond.instanceMethod yX5_isBond, Cond.selects RX5 yX5_isBond yX5_isBond, Cond.initialized RX5, Cond.code yX5_isBond cX5_isBond 2 (some .boolean), Cond.fieldLink RX5 77 "BondDeskModel" "bonds" "I", Cond.methodLink RX5 46 yX5_isIn, Cond.static yX5_isIn, Cond.code yX5_isIn cX5_isIn 3 (some .boolean), Cond.methodLink RX5 67 yX5_no, Cond.instanceMethod yX5_no, Cond.selects RX5 yX5_no yX5_no, Cond.code yX5_no cX5_no 2 (some .int), Cond.methodLink RX5 167 yX5_worthNow, Cond.instanceMethod yX5_worthNow, Cond.selects RX5 yX5_worthNow yX5_worthNow, Cond.code yX5_worthNow cX5_worthNow 3 (some .long), Cond.fieldLink RX5 14 "BondDeskModel" "today" "I", Cond.methodLink RX5 110 yX5_isThere, Cond.instanceMethod yX5_isThere, Cond.selects RX5 yX5_isThere yX5_isThere, Cond.code yX5_isThere cX5_isThere 2 (some .boolean), Cond.methodLink RX5 94 yX5_own]
def wsX5_worth_r2 : List Cond := [Cond.instanceMethod yX5_own, Cond.selects RX5 yX5_own yX5_own, Cond.code yX5_own cX5_own 3 (some .int), Cond.fieldLink RX5 31 "BondDeskModel" "of" "[I", Cond.methodLink RX5 163 yX5_worthOn, Cond.instanceMethod yX5_worthOn, Cond.selects RX5 yX5_worthOn yX5_worthOn, Cond.code yX5_worthOn cX5_worthOn 15 (some .long), Cond.constantLong RX5 132 (10000), Cond.constantLong RX5 157 (3650000000000000), Cond.constantLong RX5 130 (3650000), Cond.methodLink RX5 80 Lib.Math.min.name, Cond.static Lib.Math.min.name, Cond.initialized "java/lang/Math", Cond.code Lib.Math.min.name Lib.Math.min.code 2 (some .int), Cond.constantLong RX5 159 (10), Cond.constantLong RX5 161 (1000000000), Cond.methodLink RX5 151 yX5_behind, Cond.instanceMethod yX5_behind, Cond.selects RX5 yX5_behind yX5_behind, Cond.code yX5_behind cX5_behind 4 (some .int), Cond.methodLink RX5 97 yX5_couponDay, Cond.instanceMethod yX5_couponDay, Cond.selects RX5 yX5_couponDay yX5_couponDay]
def wsX5_worth_r3 : List Cond := [Cond.code yX5_couponDay cX5_couponDay 3 (some .int), Cond.fieldLink RX5 34 "BondDeskModel" "day" "[I", Cond.methodLink RX5 100 yX5_isSunk, Cond.instanceMethod yX5_isSunk, Cond.selects RX5 yX5_isSunk yX5_isSunk, Cond.code yX5_isSunk cX5_isSunk 3 (some .boolean), Cond.methodLink RX5 143 yX5_coupon, Cond.instanceMethod yX5_coupon, Cond.selects RX5 yX5_coupon yX5_coupon, Cond.code yX5_coupon cX5_coupon 5 (some .int), Cond.methodLink RX5 134 yX5_interest, Cond.instanceMethod yX5_interest, Cond.selects RX5 yX5_interest yX5_interest, Cond.code yX5_interest cX5_interest 8 (some .int), Cond.constantLong RX5 128 (3600000), Cond.methodLink RX5 70 yX5_date, Cond.static yX5_date, Cond.code yX5_date cX5_date 4 (some .int), Cond.methodLink RX5 50 yX5_length, Cond.static yX5_length, Cond.code yX5_length cX5_length 2 (some .int), Cond.methodLink RX5 125 yX5_thirty, Cond.static yX5_thirty, Cond.code yX5_thirty cX5_thirty 4 (some .int)]
def wsX5_worth : List Cond := .code yX5_worth cX5_worth 3 (some .int) :: ((wsX5_worth_r1 ++ (wsX5_worth_r2 ++ wsX5_worth_r3)) ++ wsX50)
def wsX5_fullPrice_r1 : List Cond := [Cond.constantLong RX5 159 (10), Cond.constantLong RX5 132 (10000), Cond.fieldLink RX5 14 "BondDeskModel" "today" "I", Cond.methodLink RX5 94 yX5_own, Cond.instanceMethod yX5_own, Cond.selects RX5 yX5_own yX5_own, Cond.initialized RX5, Cond.code yX5_own cX5_own 3 (some .int), Cond.fieldLink RX5 31 "BondDeskModel" "of" "[I", Cond.methodLink RX5 154 yX5_accruedOn, Cond.instanceMethod yX5_accruedOn, Cond.selects RX5 yX5_accruedOn yX5_accruedOn, Cond.code yX5_accruedOn cX5_accruedOn 4 (some .int), Cond.methodLink RX5 110 yX5_isThere, Cond.instanceMethod yX5_isThere, Cond.selects RX5 yX5_isThere yX5_isThere, Cond.code yX5_isThere cX5_isThere 2 (some .boolean), Cond.methodLink RX5 151 yX5_behind, Cond.instanceMethod yX5_behind, Cond.selects RX5 yX5_behind yX5_behind, Cond.code yX5_behind cX5_behind 4 (some .int), Cond.methodLink RX5 97 yX5_couponDay, Cond.instanceMethod yX5_couponDay, Cond.selects RX5 yX5_couponDay yX5_couponDay]
def wsX5_fullPrice_r2 : List Cond := [Cond.code yX5_couponDay cX5_couponDay 3 (some .int), Cond.fieldLink RX5 34 "BondDeskModel" "day" "[I", Cond.methodLink RX5 138 yX5_beginning, Cond.instanceMethod yX5_beginning, Cond.selects RX5 yX5_beginning yX5_beginning, Cond.code yX5_beginning cX5_beginning 3 (some .int), Cond.methodLink RX5 104 Lib.Math.max.name, Cond.static Lib.Math.max.name, Cond.initialized "java/lang/Math", Cond.code Lib.Math.max.name Lib.Math.max.code 2 (some .int), Cond.methodLink RX5 134 yX5_interest, Cond.instanceMethod yX5_interest, Cond.selects RX5 yX5_interest yX5_interest, Cond.code yX5_interest cX5_interest 8 (some .int), Cond.constantLong RX5 128 (3600000), Cond.constantLong RX5 130 (3650000), Cond.methodLink RX5 70 yX5_date, Cond.static yX5_date, Cond.code yX5_date cX5_date 4 (some .int), Cond.methodLink RX5 50 yX5_length, Cond.static yX5_length, Cond.code yX5_length cX5_length 2 (some .int), Cond.methodLink RX5 125 yX5_thirty, Cond.static yX5_thirty]
def wsX5_fullPrice_r3 : List Cond := [Cond.code yX5_thirty cX5_thirty 4 (some .int), Cond.methodLink RX5 80 Lib.Math.min.name, Cond.static Lib.Math.min.name, Cond.code Lib.Math.min.name Lib.Math.min.code 2 (some .int)]
def wsX5_fullPrice : List Cond := .code yX5_fullPrice cX5_fullPrice 3 (some .long) :: ((wsX5_fullPrice_r1 ++ (wsX5_fullPrice_r2 ++ wsX5_fullPrice_r3)) ++ wsX50)
def wsX5_yielded_r1 : List Cond := [Cond.methodLink RX5 110 yX5_isThere, Cond.instanceMethod yX5_isThere, Cond.selects RX5 yX5_isThere yX5_isThere, Cond.initialized RX5, Cond.code yX5_isThere cX5_isThere 2 (some .boolean), Cond.methodLink RX5 94 yX5_own, Cond.instanceMethod yX5_own, Cond.selects RX5 yX5_own yX5_own, Cond.code yX5_own cX5_own 3 (some .int), Cond.fieldLink RX5 31 "BondDeskModel" "of" "[I", Cond.methodLink RX5 171 yX5_fullPrice, Cond.instanceMethod yX5_fullPrice, Cond.selects RX5 yX5_fullPrice yX5_fullPrice, Cond.code yX5_fullPrice cX5_fullPrice 3 (some .long), Cond.constantLong RX5 159 (10), Cond.constantLong RX5 132 (10000), Cond.fieldLink RX5 14 "BondDeskModel" "today" "I", Cond.methodLink RX5 154 yX5_accruedOn, Cond.instanceMethod yX5_accruedOn, Cond.selects RX5 yX5_accruedOn yX5_accruedOn, Cond.code yX5_accruedOn cX5_accruedOn 4 (some .int), Cond.methodLink RX5 151 yX5_behind, Cond.instanceMethod yX5_behind, Cond.selects RX5 yX5_behind yX5_behind]
def wsX5_yielded_r2 : List Cond := [Cond.code yX5_behind cX5_behind 4 (some .int), Cond.methodLink RX5 97 yX5_couponDay, Cond.instanceMethod yX5_couponDay, Cond.selects RX5 yX5_couponDay yX5_couponDay, Cond.code yX5_couponDay cX5_couponDay 3 (some .int), Cond.fieldLink RX5 34 "BondDeskModel" "day" "[I", Cond.methodLink RX5 138 yX5_beginning, Cond.instanceMethod yX5_beginning, Cond.selects RX5 yX5_beginning yX5_beginning, Cond.code yX5_beginning cX5_beginning 3 (some .int), Cond.methodLink RX5 104 Lib.Math.max.name, Cond.static Lib.Math.max.name, Cond.initialized "java/lang/Math", Cond.code Lib.Math.max.name Lib.Math.max.code 2 (some .int), Cond.methodLink RX5 134 yX5_interest, Cond.instanceMethod yX5_interest, Cond.selects RX5 yX5_interest yX5_interest, Cond.code yX5_interest cX5_interest 8 (some .int), Cond.constantLong RX5 128 (3600000), Cond.constantLong RX5 130 (3650000), Cond.methodLink RX5 70 yX5_date, Cond.static yX5_date, Cond.code yX5_date cX5_date 4 (some .int), Cond.methodLink RX5 50 yX5_length]
def wsX5_yielded_r3 : List Cond := [Cond.static yX5_length, Cond.code yX5_length cX5_length 2 (some .int), Cond.methodLink RX5 125 yX5_thirty, Cond.static yX5_thirty, Cond.code yX5_thirty cX5_thirty 4 (some .int), Cond.methodLink RX5 80 Lib.Math.min.name, Cond.static Lib.Math.min.name, Cond.code Lib.Math.min.name Lib.Math.min.code 2 (some .int), Cond.methodLink RX5 167 yX5_worthNow, Cond.instanceMethod yX5_worthNow, Cond.selects RX5 yX5_worthNow yX5_worthNow, Cond.code yX5_worthNow cX5_worthNow 3 (some .long), Cond.methodLink RX5 163 yX5_worthOn, Cond.instanceMethod yX5_worthOn, Cond.selects RX5 yX5_worthOn yX5_worthOn, Cond.code yX5_worthOn cX5_worthOn 15 (some .long), Cond.constantLong RX5 157 (3650000000000000), Cond.constantLong RX5 161 (1000000000), Cond.methodLink RX5 100 yX5_isSunk, Cond.instanceMethod yX5_isSunk, Cond.selects RX5 yX5_isSunk yX5_isSunk, Cond.code yX5_isSunk cX5_isSunk 3 (some .boolean), Cond.methodLink RX5 143 yX5_coupon, Cond.instanceMethod yX5_coupon]
def wsX5_yielded_r4 : List Cond := [Cond.selects RX5 yX5_coupon yX5_coupon, Cond.code yX5_coupon cX5_coupon 5 (some .int)]
def wsX5_yielded : List Cond := .code yX5_yielded cX5_yielded 8 (some .int) :: ((wsX5_yielded_r1 ++ (wsX5_yielded_r2 ++ (wsX5_yielded_r3 ++ wsX5_yielded_r4))) ++ wsX50)
def wsX5_yields_r1 : List Cond := [Cond.fieldLink RX5 41 "BondDeskModel" "thrown" "I", Cond.methodLink RX5 107 yX5_isBond, Cond.instanceMethod yX5_isBond, Cond.selects RX5 yX5_isBond yX5_isBond, Cond.initialized RX5, Cond.code yX5_isBond cX5_isBond 2 (some .boolean), Cond.fieldLink RX5 77 "BondDeskModel" "bonds" "I", Cond.methodLink RX5 46 yX5_isIn, Cond.static yX5_isIn, Cond.code yX5_isIn cX5_isIn 3 (some .boolean), Cond.methodLink RX5 67 yX5_no, Cond.instanceMethod yX5_no, Cond.selects RX5 yX5_no yX5_no, Cond.code yX5_no cX5_no 2 (some .int), Cond.methodLink RX5 174 yX5_yielded, Cond.instanceMethod yX5_yielded, Cond.selects RX5 yX5_yielded yX5_yielded, Cond.code yX5_yielded cX5_yielded 8 (some .int), Cond.methodLink RX5 110 yX5_isThere, Cond.instanceMethod yX5_isThere, Cond.selects RX5 yX5_isThere yX5_isThere, Cond.code yX5_isThere cX5_isThere 2 (some .boolean), Cond.methodLink RX5 94 yX5_own, Cond.instanceMethod yX5_own]
def wsX5_yields_r2 : List Cond := [Cond.selects RX5 yX5_own yX5_own, Cond.code yX5_own cX5_own 3 (some .int), Cond.fieldLink RX5 31 "BondDeskModel" "of" "[I", Cond.methodLink RX5 171 yX5_fullPrice, Cond.instanceMethod yX5_fullPrice, Cond.selects RX5 yX5_fullPrice yX5_fullPrice, Cond.code yX5_fullPrice cX5_fullPrice 3 (some .long), Cond.constantLong RX5 159 (10), Cond.constantLong RX5 132 (10000), Cond.fieldLink RX5 14 "BondDeskModel" "today" "I", Cond.methodLink RX5 154 yX5_accruedOn, Cond.instanceMethod yX5_accruedOn, Cond.selects RX5 yX5_accruedOn yX5_accruedOn, Cond.code yX5_accruedOn cX5_accruedOn 4 (some .int), Cond.methodLink RX5 151 yX5_behind, Cond.instanceMethod yX5_behind, Cond.selects RX5 yX5_behind yX5_behind, Cond.code yX5_behind cX5_behind 4 (some .int), Cond.methodLink RX5 97 yX5_couponDay, Cond.instanceMethod yX5_couponDay, Cond.selects RX5 yX5_couponDay yX5_couponDay, Cond.code yX5_couponDay cX5_couponDay 3 (some .int), Cond.fieldLink RX5 34 "BondDeskModel" "day" "[I", Cond.methodLink RX5 138 yX5_beginning]
def wsX5_yields_r3 : List Cond := [Cond.instanceMethod yX5_beginning, Cond.selects RX5 yX5_beginning yX5_beginning, Cond.code yX5_beginning cX5_beginning 3 (some .int), Cond.methodLink RX5 104 Lib.Math.max.name, Cond.static Lib.Math.max.name, Cond.initialized "java/lang/Math", Cond.code Lib.Math.max.name Lib.Math.max.code 2 (some .int), Cond.methodLink RX5 134 yX5_interest, Cond.instanceMethod yX5_interest, Cond.selects RX5 yX5_interest yX5_interest, Cond.code yX5_interest cX5_interest 8 (some .int), Cond.constantLong RX5 128 (3600000), Cond.constantLong RX5 130 (3650000), Cond.methodLink RX5 70 yX5_date, Cond.static yX5_date, Cond.code yX5_date cX5_date 4 (some .int), Cond.methodLink RX5 50 yX5_length, Cond.static yX5_length, Cond.code yX5_length cX5_length 2 (some .int), Cond.methodLink RX5 125 yX5_thirty, Cond.static yX5_thirty, Cond.code yX5_thirty cX5_thirty 4 (some .int), Cond.methodLink RX5 80 Lib.Math.min.name, Cond.static Lib.Math.min.name]
def wsX5_yields_r4 : List Cond := [Cond.code Lib.Math.min.name Lib.Math.min.code 2 (some .int), Cond.methodLink RX5 167 yX5_worthNow, Cond.instanceMethod yX5_worthNow, Cond.selects RX5 yX5_worthNow yX5_worthNow, Cond.code yX5_worthNow cX5_worthNow 3 (some .long), Cond.methodLink RX5 163 yX5_worthOn, Cond.instanceMethod yX5_worthOn, Cond.selects RX5 yX5_worthOn yX5_worthOn, Cond.code yX5_worthOn cX5_worthOn 15 (some .long), Cond.constantLong RX5 157 (3650000000000000), Cond.constantLong RX5 161 (1000000000), Cond.methodLink RX5 100 yX5_isSunk, Cond.instanceMethod yX5_isSunk, Cond.selects RX5 yX5_isSunk yX5_isSunk, Cond.code yX5_isSunk cX5_isSunk 3 (some .boolean), Cond.methodLink RX5 143 yX5_coupon, Cond.instanceMethod yX5_coupon, Cond.selects RX5 yX5_coupon yX5_coupon, Cond.code yX5_coupon cX5_coupon 5 (some .int)]
def wsX5_yields : List Cond := .code yX5_yields cX5_yields 3 (some .int) :: ((wsX5_yields_r1 ++ (wsX5_yields_r2 ++ (wsX5_yields_r3 ++ wsX5_yields_r4))) ++ wsX50)
def wsX5_moves_r1 : List Cond := [Cond.fieldLink RX5 41 "BondDeskModel" "thrown" "I", Cond.methodLink RX5 107 yX5_isBond, Cond.instanceMethod yX5_isBond, Cond.selects RX5 yX5_isBond yX5_isBond, Cond.initialized RX5, Cond.code yX5_isBond cX5_isBond 2 (some .boolean), Cond.fieldLink RX5 77 "BondDeskModel" "bonds" "I", Cond.methodLink RX5 46 yX5_isIn, Cond.static yX5_isIn, Cond.code yX5_isIn cX5_isIn 3 (some .boolean), Cond.methodLink RX5 67 yX5_no, Cond.instanceMethod yX5_no, Cond.selects RX5 yX5_no yX5_no, Cond.code yX5_no cX5_no 2 (some .int), Cond.methodLink RX5 167 yX5_worthNow, Cond.instanceMethod yX5_worthNow, Cond.selects RX5 yX5_worthNow yX5_worthNow, Cond.code yX5_worthNow cX5_worthNow 3 (some .long), Cond.fieldLink RX5 14 "BondDeskModel" "today" "I", Cond.methodLink RX5 110 yX5_isThere, Cond.instanceMethod yX5_isThere, Cond.selects RX5 yX5_isThere yX5_isThere, Cond.code yX5_isThere cX5_isThere 2 (some .boolean), Cond.methodLink RX5 94 yX5_own]
def wsX5_moves_r2 : List Cond := [Cond.instanceMethod yX5_own, Cond.selects RX5 yX5_own yX5_own, Cond.code yX5_own cX5_own 3 (some .int), Cond.fieldLink RX5 31 "BondDeskModel" "of" "[I", Cond.methodLink RX5 163 yX5_worthOn, Cond.instanceMethod yX5_worthOn, Cond.selects RX5 yX5_worthOn yX5_worthOn, Cond.code yX5_worthOn cX5_worthOn 15 (some .long), Cond.constantLong RX5 132 (10000), Cond.constantLong RX5 157 (3650000000000000), Cond.constantLong RX5 130 (3650000), Cond.methodLink RX5 80 Lib.Math.min.name, Cond.static Lib.Math.min.name, Cond.initialized "java/lang/Math", Cond.code Lib.Math.min.name Lib.Math.min.code 2 (some .int), Cond.constantLong RX5 159 (10), Cond.constantLong RX5 161 (1000000000), Cond.methodLink RX5 151 yX5_behind, Cond.instanceMethod yX5_behind, Cond.selects RX5 yX5_behind yX5_behind, Cond.code yX5_behind cX5_behind 4 (some .int), Cond.methodLink RX5 97 yX5_couponDay, Cond.instanceMethod yX5_couponDay, Cond.selects RX5 yX5_couponDay yX5_couponDay]
def wsX5_moves_r3 : List Cond := [Cond.code yX5_couponDay cX5_couponDay 3 (some .int), Cond.fieldLink RX5 34 "BondDeskModel" "day" "[I", Cond.methodLink RX5 100 yX5_isSunk, Cond.instanceMethod yX5_isSunk, Cond.selects RX5 yX5_isSunk yX5_isSunk, Cond.code yX5_isSunk cX5_isSunk 3 (some .boolean), Cond.methodLink RX5 143 yX5_coupon, Cond.instanceMethod yX5_coupon, Cond.selects RX5 yX5_coupon yX5_coupon, Cond.code yX5_coupon cX5_coupon 5 (some .int), Cond.methodLink RX5 134 yX5_interest, Cond.instanceMethod yX5_interest, Cond.selects RX5 yX5_interest yX5_interest, Cond.code yX5_interest cX5_interest 8 (some .int), Cond.constantLong RX5 128 (3600000), Cond.methodLink RX5 70 yX5_date, Cond.static yX5_date, Cond.code yX5_date cX5_date 4 (some .int), Cond.methodLink RX5 50 yX5_length, Cond.static yX5_length, Cond.code yX5_length cX5_length 2 (some .int), Cond.methodLink RX5 125 yX5_thirty, Cond.static yX5_thirty, Cond.code yX5_thirty cX5_thirty 4 (some .int)]
def wsX5_moves : List Cond := .code yX5_moves cX5_moves 3 (some .int) :: ((wsX5_moves_r1 ++ (wsX5_moves_r2 ++ wsX5_moves_r3)) ++ wsX50)
def wsX5_callPaid : List Cond := .code yX5_callPaid cX5_callPaid 3 (some .long) :: ([.constantLong RX5 159 (10), .constantLong RX5 132 (10000), .methodLink RX5 94 yX5_own, .instanceMethod yX5_own, .selects RX5 yX5_own yX5_own, .initialized RX5, .code yX5_own cX5_own 3 (some .int), .fieldLink RX5 31 "BondDeskModel" "of" "[I"] ++ wsX50)
def wsX5_callsAt_r1 : List Cond := [Cond.fieldLink RX5 41 "BondDeskModel" "thrown" "I", Cond.methodLink RX5 107 yX5_isBond, Cond.instanceMethod yX5_isBond, Cond.selects RX5 yX5_isBond yX5_isBond, Cond.initialized RX5, Cond.code yX5_isBond cX5_isBond 2 (some .boolean), Cond.fieldLink RX5 77 "BondDeskModel" "bonds" "I", Cond.methodLink RX5 46 yX5_isIn, Cond.static yX5_isIn, Cond.code yX5_isIn cX5_isIn 3 (some .boolean), Cond.methodLink RX5 67 yX5_no, Cond.instanceMethod yX5_no, Cond.selects RX5 yX5_no yX5_no, Cond.code yX5_no cX5_no 2 (some .int), Cond.methodLink RX5 119 yX5_firstCall, Cond.instanceMethod yX5_firstCall, Cond.selects RX5 yX5_firstCall yX5_firstCall, Cond.code yX5_firstCall cX5_firstCall 3 (some .int), Cond.methodLink RX5 110 yX5_isThere, Cond.instanceMethod yX5_isThere, Cond.selects RX5 yX5_isThere yX5_isThere, Cond.code yX5_isThere cX5_isThere 2 (some .boolean), Cond.methodLink RX5 94 yX5_own, Cond.instanceMethod yX5_own]
def wsX5_callsAt_r2 : List Cond := [Cond.selects RX5 yX5_own yX5_own, Cond.code yX5_own cX5_own 3 (some .int), Cond.fieldLink RX5 31 "BondDeskModel" "of" "[I", Cond.methodLink RX5 116 yX5_isCalled, Cond.instanceMethod yX5_isCalled, Cond.selects RX5 yX5_isCalled yX5_isCalled, Cond.code yX5_isCalled cX5_isCalled 3 (some .boolean), Cond.methodLink RX5 97 yX5_couponDay, Cond.instanceMethod yX5_couponDay, Cond.selects RX5 yX5_couponDay yX5_couponDay, Cond.code yX5_couponDay cX5_couponDay 3 (some .int), Cond.fieldLink RX5 34 "BondDeskModel" "day" "[I", Cond.methodLink RX5 113 yX5_leftBehind, Cond.instanceMethod yX5_leftBehind, Cond.selects RX5 yX5_leftBehind yX5_leftBehind, Cond.code yX5_leftBehind cX5_leftBehind 5 (some .int), Cond.methodLink RX5 104 Lib.Math.max.name, Cond.static Lib.Math.max.name, Cond.initialized "java/lang/Math", Cond.code Lib.Math.max.name Lib.Math.max.code 2 (some .int), Cond.methodLink RX5 100 yX5_isSunk, Cond.instanceMethod yX5_isSunk, Cond.selects RX5 yX5_isSunk yX5_isSunk, Cond.code yX5_isSunk cX5_isSunk 3 (some .boolean)]
def wsX5_callsAt_r3 : List Cond := [Cond.methodLink RX5 163 yX5_worthOn, Cond.instanceMethod yX5_worthOn, Cond.selects RX5 yX5_worthOn yX5_worthOn, Cond.code yX5_worthOn cX5_worthOn 15 (some .long), Cond.constantLong RX5 132 (10000), Cond.constantLong RX5 157 (3650000000000000), Cond.constantLong RX5 130 (3650000), Cond.methodLink RX5 80 Lib.Math.min.name, Cond.static Lib.Math.min.name, Cond.code Lib.Math.min.name Lib.Math.min.code 2 (some .int), Cond.constantLong RX5 159 (10), Cond.constantLong RX5 161 (1000000000), Cond.methodLink RX5 151 yX5_behind, Cond.instanceMethod yX5_behind, Cond.selects RX5 yX5_behind yX5_behind, Cond.code yX5_behind cX5_behind 4 (some .int), Cond.methodLink RX5 143 yX5_coupon, Cond.instanceMethod yX5_coupon, Cond.selects RX5 yX5_coupon yX5_coupon, Cond.code yX5_coupon cX5_coupon 5 (some .int), Cond.methodLink RX5 134 yX5_interest, Cond.instanceMethod yX5_interest, Cond.selects RX5 yX5_interest yX5_interest, Cond.code yX5_interest cX5_interest 8 (some .int)]
def wsX5_callsAt_r4 : List Cond := [Cond.constantLong RX5 128 (3600000), Cond.methodLink RX5 70 yX5_date, Cond.static yX5_date, Cond.code yX5_date cX5_date 4 (some .int), Cond.methodLink RX5 50 yX5_length, Cond.static yX5_length, Cond.code yX5_length cX5_length 2 (some .int), Cond.methodLink RX5 125 yX5_thirty, Cond.static yX5_thirty, Cond.code yX5_thirty cX5_thirty 4 (some .int), Cond.methodLink RX5 177 yX5_callPaid, Cond.instanceMethod yX5_callPaid, Cond.selects RX5 yX5_callPaid yX5_callPaid, Cond.code yX5_callPaid cX5_callPaid 3 (some .long)]
def wsX5_callsAt : List Cond := .code yX5_callsAt cX5_callsAt 7 (some .int) :: ((wsX5_callsAt_r1 ++ (wsX5_callsAt_r2 ++ (wsX5_callsAt_r3 ++ wsX5_callsAt_r4))) ++ wsX50)
def wsX5_buy_r1 : List Cond := [Cond.fieldLink RX5 41 "BondDeskModel" "thrown" "I", Cond.fieldLink RX5 14 "BondDeskModel" "today" "I", Cond.fieldLink RX5 20 "BondDeskModel" "cash" "J", Cond.fieldLink RX5 31 "BondDeskModel" "of" "[I", Cond.methodLink RX5 107 yX5_isBond, Cond.instanceMethod yX5_isBond, Cond.selects RX5 yX5_isBond yX5_isBond, Cond.initialized RX5, Cond.code yX5_isBond cX5_isBond 2 (some .boolean), Cond.fieldLink RX5 77 "BondDeskModel" "bonds" "I", Cond.methodLink RX5 46 yX5_isIn, Cond.static yX5_isIn, Cond.code yX5_isIn cX5_isIn 3 (some .boolean), Cond.methodLink RX5 67 yX5_no, Cond.instanceMethod yX5_no, Cond.selects RX5 yX5_no yX5_no, Cond.code yX5_no cX5_no 2 (some .int), Cond.methodLink RX5 171 yX5_fullPrice, Cond.instanceMethod yX5_fullPrice, Cond.selects RX5 yX5_fullPrice yX5_fullPrice, Cond.code yX5_fullPrice cX5_fullPrice 3 (some .long), Cond.constantLong RX5 159 (10), Cond.constantLong RX5 132 (10000), Cond.methodLink RX5 94 yX5_own]
def wsX5_buy_r2 : List Cond := [Cond.instanceMethod yX5_own, Cond.selects RX5 yX5_own yX5_own, Cond.code yX5_own cX5_own 3 (some .int), Cond.methodLink RX5 154 yX5_accruedOn, Cond.instanceMethod yX5_accruedOn, Cond.selects RX5 yX5_accruedOn yX5_accruedOn, Cond.code yX5_accruedOn cX5_accruedOn 4 (some .int), Cond.methodLink RX5 110 yX5_isThere, Cond.instanceMethod yX5_isThere, Cond.selects RX5 yX5_isThere yX5_isThere, Cond.code yX5_isThere cX5_isThere 2 (some .boolean), Cond.methodLink RX5 151 yX5_behind, Cond.instanceMethod yX5_behind, Cond.selects RX5 yX5_behind yX5_behind, Cond.code yX5_behind cX5_behind 4 (some .int), Cond.methodLink RX5 97 yX5_couponDay, Cond.instanceMethod yX5_couponDay, Cond.selects RX5 yX5_couponDay yX5_couponDay, Cond.code yX5_couponDay cX5_couponDay 3 (some .int), Cond.fieldLink RX5 34 "BondDeskModel" "day" "[I", Cond.methodLink RX5 138 yX5_beginning, Cond.instanceMethod yX5_beginning, Cond.selects RX5 yX5_beginning yX5_beginning, Cond.code yX5_beginning cX5_beginning 3 (some .int)]
def wsX5_buy_r3 : List Cond := [Cond.methodLink RX5 104 Lib.Math.max.name, Cond.static Lib.Math.max.name, Cond.initialized "java/lang/Math", Cond.code Lib.Math.max.name Lib.Math.max.code 2 (some .int), Cond.methodLink RX5 134 yX5_interest, Cond.instanceMethod yX5_interest, Cond.selects RX5 yX5_interest yX5_interest, Cond.code yX5_interest cX5_interest 8 (some .int), Cond.constantLong RX5 128 (3600000), Cond.constantLong RX5 130 (3650000), Cond.methodLink RX5 70 yX5_date, Cond.static yX5_date, Cond.code yX5_date cX5_date 4 (some .int), Cond.methodLink RX5 50 yX5_length, Cond.static yX5_length, Cond.code yX5_length cX5_length 2 (some .int), Cond.methodLink RX5 125 yX5_thirty, Cond.static yX5_thirty, Cond.code yX5_thirty cX5_thirty 4 (some .int), Cond.methodLink RX5 80 Lib.Math.min.name, Cond.static Lib.Math.min.name, Cond.code Lib.Math.min.name Lib.Math.min.code 2 (some .int), Cond.methodLink RX5 60 yX5_isWorking, Cond.instanceMethod yX5_isWorking]
def wsX5_buy_r4 : List Cond := [Cond.selects RX5 yX5_isWorking yX5_isWorking, Cond.code yX5_isWorking cX5_isWorking 4 (some .boolean), Cond.fieldLink RX5 57 "BondDeskModel" "holidays" "I", Cond.fieldLink RX5 27 "BondDeskModel" "holiday" "[I", Cond.methodLink RX5 54 yX5_weekday, Cond.static yX5_weekday, Cond.code yX5_weekday cX5_weekday 2 (some .int)]
def wsX5_buy : List Cond := .code yX5_buy cX5_buy 6 (some .long) :: ((wsX5_buy_r1 ++ (wsX5_buy_r2 ++ (wsX5_buy_r3 ++ wsX5_buy_r4))) ++ wsX50)
def wsX5_sell_r1 : List Cond := [Cond.fieldLink RX5 41 "BondDeskModel" "thrown" "I", Cond.fieldLink RX5 14 "BondDeskModel" "today" "I", Cond.fieldLink RX5 20 "BondDeskModel" "cash" "J", Cond.fieldLink RX5 31 "BondDeskModel" "of" "[I", Cond.methodLink RX5 107 yX5_isBond, Cond.instanceMethod yX5_isBond, Cond.selects RX5 yX5_isBond yX5_isBond, Cond.initialized RX5, Cond.code yX5_isBond cX5_isBond 2 (some .boolean), Cond.fieldLink RX5 77 "BondDeskModel" "bonds" "I", Cond.methodLink RX5 46 yX5_isIn, Cond.static yX5_isIn, Cond.code yX5_isIn cX5_isIn 3 (some .boolean), Cond.methodLink RX5 67 yX5_no, Cond.instanceMethod yX5_no, Cond.selects RX5 yX5_no yX5_no, Cond.code yX5_no cX5_no 2 (some .int), Cond.methodLink RX5 60 yX5_isWorking, Cond.instanceMethod yX5_isWorking, Cond.selects RX5 yX5_isWorking yX5_isWorking, Cond.code yX5_isWorking cX5_isWorking 4 (some .boolean), Cond.fieldLink RX5 57 "BondDeskModel" "holidays" "I", Cond.fieldLink RX5 27 "BondDeskModel" "holiday" "[I", Cond.methodLink RX5 54 yX5_weekday]
def wsX5_sell_r2 : List Cond := [Cond.static yX5_weekday, Cond.code yX5_weekday cX5_weekday 2 (some .int), Cond.methodLink RX5 94 yX5_own, Cond.instanceMethod yX5_own, Cond.selects RX5 yX5_own yX5_own, Cond.code yX5_own cX5_own 3 (some .int), Cond.methodLink RX5 171 yX5_fullPrice, Cond.instanceMethod yX5_fullPrice, Cond.selects RX5 yX5_fullPrice yX5_fullPrice, Cond.code yX5_fullPrice cX5_fullPrice 3 (some .long), Cond.constantLong RX5 159 (10), Cond.constantLong RX5 132 (10000), Cond.methodLink RX5 154 yX5_accruedOn, Cond.instanceMethod yX5_accruedOn, Cond.selects RX5 yX5_accruedOn yX5_accruedOn, Cond.code yX5_accruedOn cX5_accruedOn 4 (some .int), Cond.methodLink RX5 110 yX5_isThere, Cond.instanceMethod yX5_isThere, Cond.selects RX5 yX5_isThere yX5_isThere, Cond.code yX5_isThere cX5_isThere 2 (some .boolean), Cond.methodLink RX5 151 yX5_behind, Cond.instanceMethod yX5_behind, Cond.selects RX5 yX5_behind yX5_behind, Cond.code yX5_behind cX5_behind 4 (some .int)]
def wsX5_sell_r3 : List Cond := [Cond.methodLink RX5 97 yX5_couponDay, Cond.instanceMethod yX5_couponDay, Cond.selects RX5 yX5_couponDay yX5_couponDay, Cond.code yX5_couponDay cX5_couponDay 3 (some .int), Cond.fieldLink RX5 34 "BondDeskModel" "day" "[I", Cond.methodLink RX5 138 yX5_beginning, Cond.instanceMethod yX5_beginning, Cond.selects RX5 yX5_beginning yX5_beginning, Cond.code yX5_beginning cX5_beginning 3 (some .int), Cond.methodLink RX5 104 Lib.Math.max.name, Cond.static Lib.Math.max.name, Cond.initialized "java/lang/Math", Cond.code Lib.Math.max.name Lib.Math.max.code 2 (some .int), Cond.methodLink RX5 134 yX5_interest, Cond.instanceMethod yX5_interest, Cond.selects RX5 yX5_interest yX5_interest, Cond.code yX5_interest cX5_interest 8 (some .int), Cond.constantLong RX5 128 (3600000), Cond.constantLong RX5 130 (3650000), Cond.methodLink RX5 70 yX5_date, Cond.static yX5_date, Cond.code yX5_date cX5_date 4 (some .int), Cond.methodLink RX5 50 yX5_length, Cond.static yX5_length]
def wsX5_sell_r4 : List Cond := [Cond.code yX5_length cX5_length 2 (some .int), Cond.methodLink RX5 125 yX5_thirty, Cond.static yX5_thirty, Cond.code yX5_thirty cX5_thirty 4 (some .int), Cond.methodLink RX5 80 Lib.Math.min.name, Cond.static Lib.Math.min.name, Cond.code Lib.Math.min.name Lib.Math.min.code 2 (some .int)]
def wsX5_sell : List Cond := .code yX5_sell cX5_sell 6 (some .long) :: ((wsX5_sell_r1 ++ (wsX5_sell_r2 ++ (wsX5_sell_r3 ++ wsX5_sell_r4))) ++ wsX50)
def wsX5_pay : List Cond := .code yX5_pay cX5_pay 7 (some .long) :: ([.fieldLink RX5 37 "BondDeskModel" "paid" "[J", .fieldLink RX5 20 "BondDeskModel" "cash" "J", .methodLink RX5 94 yX5_own, .instanceMethod yX5_own, .selects RX5 yX5_own yX5_own, .initialized RX5, .code yX5_own cX5_own 3 (some .int), .fieldLink RX5 31 "BondDeskModel" "of" "[I"] ++ wsX50)
def wsX5_leave : List Cond := .code yX5_leave cX5_leave 3 none :: ([.fieldLink RX5 31 "BondDeskModel" "of" "[I"] ++ wsX50)
def wsX5_look_r1 : List Cond := [Cond.fieldLink RX5 31 "BondDeskModel" "of" "[I", Cond.constantLong RX5 159 (10), Cond.methodLink RX5 80 Lib.Math.min.name, Cond.static Lib.Math.min.name, Cond.initialized "java/lang/Math", Cond.code Lib.Math.min.name Lib.Math.min.code 2 (some .int), Cond.fieldLink RX5 24 "BondDeskModel" "rate" "I", Cond.methodLink RX5 94 yX5_own, Cond.instanceMethod yX5_own, Cond.selects RX5 yX5_own yX5_own, Cond.initialized RX5, Cond.code yX5_own cX5_own 3 (some .int), Cond.methodLink RX5 143 yX5_coupon, Cond.instanceMethod yX5_coupon, Cond.selects RX5 yX5_coupon yX5_coupon, Cond.code yX5_coupon cX5_coupon 5 (some .int), Cond.constantLong RX5 132 (10000), Cond.methodLink RX5 97 yX5_couponDay, Cond.instanceMethod yX5_couponDay, Cond.selects RX5 yX5_couponDay yX5_couponDay, Cond.code yX5_couponDay cX5_couponDay 3 (some .int), Cond.fieldLink RX5 34 "BondDeskModel" "day" "[I", Cond.methodLink RX5 134 yX5_interest, Cond.instanceMethod yX5_interest]
def wsX5_look_r2 : List Cond := [Cond.selects RX5 yX5_interest yX5_interest, Cond.code yX5_interest cX5_interest 8 (some .int), Cond.constantLong RX5 128 (3600000), Cond.constantLong RX5 130 (3650000), Cond.methodLink RX5 70 yX5_date, Cond.static yX5_date, Cond.code yX5_date cX5_date 4 (some .int), Cond.methodLink RX5 50 yX5_length, Cond.static yX5_length, Cond.code yX5_length cX5_length 2 (some .int), Cond.methodLink RX5 125 yX5_thirty, Cond.static yX5_thirty, Cond.code yX5_thirty cX5_thirty 4 (some .int), Cond.methodLink RX5 180 yX5_pay, Cond.instanceMethod yX5_pay, Cond.selects RX5 yX5_pay yX5_pay, Cond.code yX5_pay cX5_pay 7 (some .long), Cond.fieldLink RX5 37 "BondDeskModel" "paid" "[J", Cond.fieldLink RX5 20 "BondDeskModel" "cash" "J", Cond.methodLink RX5 184 yX5_leave, Cond.instanceMethod yX5_leave, Cond.selects RX5 yX5_leave yX5_leave, Cond.code yX5_leave cX5_leave 3 none, Cond.methodLink RX5 100 yX5_isSunk]
def wsX5_look_r3 : List Cond := [Cond.instanceMethod yX5_isSunk, Cond.selects RX5 yX5_isSunk yX5_isSunk, Cond.code yX5_isSunk cX5_isSunk 3 (some .boolean), Cond.methodLink RX5 116 yX5_isCalled, Cond.instanceMethod yX5_isCalled, Cond.selects RX5 yX5_isCalled yX5_isCalled, Cond.code yX5_isCalled cX5_isCalled 3 (some .boolean), Cond.methodLink RX5 163 yX5_worthOn, Cond.instanceMethod yX5_worthOn, Cond.selects RX5 yX5_worthOn yX5_worthOn, Cond.code yX5_worthOn cX5_worthOn 15 (some .long), Cond.constantLong RX5 157 (3650000000000000), Cond.constantLong RX5 161 (1000000000), Cond.methodLink RX5 151 yX5_behind, Cond.instanceMethod yX5_behind, Cond.selects RX5 yX5_behind yX5_behind, Cond.code yX5_behind cX5_behind 4 (some .int), Cond.methodLink RX5 177 yX5_callPaid, Cond.instanceMethod yX5_callPaid, Cond.selects RX5 yX5_callPaid yX5_callPaid, Cond.code yX5_callPaid cX5_callPaid 3 (some .long)]
def wsX5_look : List Cond := .code yX5_look cX5_look 6 (some .long) :: ((wsX5_look_r1 ++ (wsX5_look_r2 ++ wsX5_look_r3)) ++ wsX50)
def wsX5_pass_r1 : List Cond := [Cond.fieldLink RX5 41 "BondDeskModel" "thrown" "I", Cond.fieldLink RX5 14 "BondDeskModel" "today" "I", Cond.constant RX5 73 (20661101), Cond.fieldLink RX5 77 "BondDeskModel" "bonds" "I", Cond.methodLink RX5 46 yX5_isIn, Cond.static yX5_isIn, Cond.initialized RX5, Cond.code yX5_isIn cX5_isIn 3 (some .boolean), Cond.methodLink RX5 67 yX5_no, Cond.instanceMethod yX5_no, Cond.selects RX5 yX5_no yX5_no, Cond.code yX5_no cX5_no 2 (some .int), Cond.methodLink RX5 8 yX5_number, Cond.static yX5_number, Cond.code yX5_number cX5_number 4 (some .int), Cond.methodLink RX5 50 yX5_length, Cond.static yX5_length, Cond.code yX5_length cX5_length 2 (some .int), Cond.methodLink RX5 60 yX5_isWorking, Cond.instanceMethod yX5_isWorking, Cond.selects RX5 yX5_isWorking yX5_isWorking, Cond.code yX5_isWorking cX5_isWorking 4 (some .boolean), Cond.fieldLink RX5 57 "BondDeskModel" "holidays" "I", Cond.fieldLink RX5 27 "BondDeskModel" "holiday" "[I"]
def wsX5_pass_r2 : List Cond := [Cond.methodLink RX5 54 yX5_weekday, Cond.static yX5_weekday, Cond.code yX5_weekday cX5_weekday 2 (some .int), Cond.methodLink RX5 110 yX5_isThere, Cond.instanceMethod yX5_isThere, Cond.selects RX5 yX5_isThere yX5_isThere, Cond.code yX5_isThere cX5_isThere 2 (some .boolean), Cond.methodLink RX5 94 yX5_own, Cond.instanceMethod yX5_own, Cond.selects RX5 yX5_own yX5_own, Cond.code yX5_own cX5_own 3 (some .int), Cond.fieldLink RX5 31 "BondDeskModel" "of" "[I", Cond.methodLink RX5 97 yX5_couponDay, Cond.instanceMethod yX5_couponDay, Cond.selects RX5 yX5_couponDay yX5_couponDay, Cond.code yX5_couponDay cX5_couponDay 3 (some .int), Cond.fieldLink RX5 34 "BondDeskModel" "day" "[I", Cond.methodLink RX5 188 yX5_look, Cond.instanceMethod yX5_look, Cond.selects RX5 yX5_look yX5_look, Cond.code yX5_look cX5_look 6 (some .long), Cond.constantLong RX5 159 (10), Cond.methodLink RX5 80 Lib.Math.min.name, Cond.static Lib.Math.min.name]
def wsX5_pass_r3 : List Cond := [Cond.initialized "java/lang/Math", Cond.code Lib.Math.min.name Lib.Math.min.code 2 (some .int), Cond.fieldLink RX5 24 "BondDeskModel" "rate" "I", Cond.methodLink RX5 143 yX5_coupon, Cond.instanceMethod yX5_coupon, Cond.selects RX5 yX5_coupon yX5_coupon, Cond.code yX5_coupon cX5_coupon 5 (some .int), Cond.constantLong RX5 132 (10000), Cond.methodLink RX5 134 yX5_interest, Cond.instanceMethod yX5_interest, Cond.selects RX5 yX5_interest yX5_interest, Cond.code yX5_interest cX5_interest 8 (some .int), Cond.constantLong RX5 128 (3600000), Cond.constantLong RX5 130 (3650000), Cond.methodLink RX5 70 yX5_date, Cond.static yX5_date, Cond.code yX5_date cX5_date 4 (some .int), Cond.methodLink RX5 125 yX5_thirty, Cond.static yX5_thirty, Cond.code yX5_thirty cX5_thirty 4 (some .int), Cond.methodLink RX5 180 yX5_pay, Cond.instanceMethod yX5_pay, Cond.selects RX5 yX5_pay yX5_pay, Cond.code yX5_pay cX5_pay 7 (some .long)]
def wsX5_pass_r4 : List Cond := [Cond.fieldLink RX5 37 "BondDeskModel" "paid" "[J", Cond.fieldLink RX5 20 "BondDeskModel" "cash" "J", Cond.methodLink RX5 184 yX5_leave, Cond.instanceMethod yX5_leave, Cond.selects RX5 yX5_leave yX5_leave, Cond.code yX5_leave cX5_leave 3 none, Cond.methodLink RX5 100 yX5_isSunk, Cond.instanceMethod yX5_isSunk, Cond.selects RX5 yX5_isSunk yX5_isSunk, Cond.code yX5_isSunk cX5_isSunk 3 (some .boolean), Cond.methodLink RX5 116 yX5_isCalled, Cond.instanceMethod yX5_isCalled, Cond.selects RX5 yX5_isCalled yX5_isCalled, Cond.code yX5_isCalled cX5_isCalled 3 (some .boolean), Cond.methodLink RX5 163 yX5_worthOn, Cond.instanceMethod yX5_worthOn, Cond.selects RX5 yX5_worthOn yX5_worthOn, Cond.code yX5_worthOn cX5_worthOn 15 (some .long), Cond.constantLong RX5 157 (3650000000000000), Cond.constantLong RX5 161 (1000000000), Cond.methodLink RX5 151 yX5_behind, Cond.instanceMethod yX5_behind, Cond.selects RX5 yX5_behind yX5_behind, Cond.code yX5_behind cX5_behind 4 (some .int)]
def wsX5_pass_r5 : List Cond := [Cond.methodLink RX5 177 yX5_callPaid, Cond.instanceMethod yX5_callPaid, Cond.selects RX5 yX5_callPaid yX5_callPaid, Cond.code yX5_callPaid cX5_callPaid 3 (some .long)]
def wsX5_pass : List Cond := .code yX5_pass cX5_pass 6 (some .long) :: ((wsX5_pass_r1 ++ (wsX5_pass_r2 ++ (wsX5_pass_r3 ++ (wsX5_pass_r4 ++ wsX5_pass_r5)))) ++ wsX50)
def wsX5_counted_r1 : List Cond := [Cond.fieldLink RX5 77 "BondDeskModel" "bonds" "I", Cond.fieldLink RX5 14 "BondDeskModel" "today" "I", Cond.fieldLink RX5 20 "BondDeskModel" "cash" "J", Cond.fieldLink RX5 24 "BondDeskModel" "rate" "I", Cond.fieldLink RX5 57 "BondDeskModel" "holidays" "I", Cond.fieldLink RX5 37 "BondDeskModel" "paid" "[J", Cond.methodLink RX5 110 yX5_isThere, Cond.instanceMethod yX5_isThere, Cond.selects RX5 yX5_isThere yX5_isThere, Cond.initialized RX5, Cond.code yX5_isThere cX5_isThere 2 (some .boolean), Cond.methodLink RX5 94 yX5_own, Cond.instanceMethod yX5_own, Cond.selects RX5 yX5_own yX5_own, Cond.code yX5_own cX5_own 3 (some .int), Cond.fieldLink RX5 31 "BondDeskModel" "of" "[I", Cond.methodLink RX5 70 yX5_date, Cond.static yX5_date, Cond.code yX5_date cX5_date 4 (some .int), Cond.methodLink RX5 50 yX5_length, Cond.static yX5_length, Cond.code yX5_length cX5_length 2 (some .int), Cond.methodLink RX5 167 yX5_worthNow, Cond.instanceMethod yX5_worthNow]
def wsX5_counted_r2 : List Cond := [Cond.selects RX5 yX5_worthNow yX5_worthNow, Cond.code yX5_worthNow cX5_worthNow 3 (some .long), Cond.methodLink RX5 163 yX5_worthOn, Cond.instanceMethod yX5_worthOn, Cond.selects RX5 yX5_worthOn yX5_worthOn, Cond.code yX5_worthOn cX5_worthOn 15 (some .long), Cond.constantLong RX5 132 (10000), Cond.constantLong RX5 157 (3650000000000000), Cond.constantLong RX5 130 (3650000), Cond.methodLink RX5 80 Lib.Math.min.name, Cond.static Lib.Math.min.name, Cond.initialized "java/lang/Math", Cond.code Lib.Math.min.name Lib.Math.min.code 2 (some .int), Cond.constantLong RX5 159 (10), Cond.constantLong RX5 161 (1000000000), Cond.methodLink RX5 151 yX5_behind, Cond.instanceMethod yX5_behind, Cond.selects RX5 yX5_behind yX5_behind, Cond.code yX5_behind cX5_behind 4 (some .int), Cond.methodLink RX5 97 yX5_couponDay, Cond.instanceMethod yX5_couponDay, Cond.selects RX5 yX5_couponDay yX5_couponDay, Cond.code yX5_couponDay cX5_couponDay 3 (some .int), Cond.fieldLink RX5 34 "BondDeskModel" "day" "[I"]
def wsX5_counted_r3 : List Cond := [Cond.methodLink RX5 100 yX5_isSunk, Cond.instanceMethod yX5_isSunk, Cond.selects RX5 yX5_isSunk yX5_isSunk, Cond.code yX5_isSunk cX5_isSunk 3 (some .boolean), Cond.methodLink RX5 143 yX5_coupon, Cond.instanceMethod yX5_coupon, Cond.selects RX5 yX5_coupon yX5_coupon, Cond.code yX5_coupon cX5_coupon 5 (some .int), Cond.methodLink RX5 134 yX5_interest, Cond.instanceMethod yX5_interest, Cond.selects RX5 yX5_interest yX5_interest, Cond.code yX5_interest cX5_interest 8 (some .int), Cond.constantLong RX5 128 (3600000), Cond.methodLink RX5 125 yX5_thirty, Cond.static yX5_thirty, Cond.code yX5_thirty cX5_thirty 4 (some .int)]
def wsX5_counted : List Cond := .code yX5_counted cX5_counted 9 (some .long) :: ((wsX5_counted_r1 ++ (wsX5_counted_r2 ++ wsX5_counted_r3)) ++ wsX50)
def wsX5_count_r1 : List Cond := [Cond.fieldLink RX5 41 "BondDeskModel" "thrown" "I", Cond.methodLink RX5 46 yX5_isIn, Cond.static yX5_isIn, Cond.initialized RX5, Cond.code yX5_isIn cX5_isIn 3 (some .boolean), Cond.methodLink RX5 192 yX5_counted, Cond.instanceMethod yX5_counted, Cond.selects RX5 yX5_counted yX5_counted, Cond.code yX5_counted cX5_counted 9 (some .long), Cond.fieldLink RX5 77 "BondDeskModel" "bonds" "I", Cond.fieldLink RX5 14 "BondDeskModel" "today" "I", Cond.fieldLink RX5 20 "BondDeskModel" "cash" "J", Cond.fieldLink RX5 24 "BondDeskModel" "rate" "I", Cond.fieldLink RX5 57 "BondDeskModel" "holidays" "I", Cond.fieldLink RX5 37 "BondDeskModel" "paid" "[J", Cond.methodLink RX5 110 yX5_isThere, Cond.instanceMethod yX5_isThere, Cond.selects RX5 yX5_isThere yX5_isThere, Cond.code yX5_isThere cX5_isThere 2 (some .boolean), Cond.methodLink RX5 94 yX5_own, Cond.instanceMethod yX5_own, Cond.selects RX5 yX5_own yX5_own, Cond.code yX5_own cX5_own 3 (some .int), Cond.fieldLink RX5 31 "BondDeskModel" "of" "[I"]
def wsX5_count_r2 : List Cond := [Cond.methodLink RX5 70 yX5_date, Cond.static yX5_date, Cond.code yX5_date cX5_date 4 (some .int), Cond.methodLink RX5 50 yX5_length, Cond.static yX5_length, Cond.code yX5_length cX5_length 2 (some .int), Cond.methodLink RX5 167 yX5_worthNow, Cond.instanceMethod yX5_worthNow, Cond.selects RX5 yX5_worthNow yX5_worthNow, Cond.code yX5_worthNow cX5_worthNow 3 (some .long), Cond.methodLink RX5 163 yX5_worthOn, Cond.instanceMethod yX5_worthOn, Cond.selects RX5 yX5_worthOn yX5_worthOn, Cond.code yX5_worthOn cX5_worthOn 15 (some .long), Cond.constantLong RX5 132 (10000), Cond.constantLong RX5 157 (3650000000000000), Cond.constantLong RX5 130 (3650000), Cond.methodLink RX5 80 Lib.Math.min.name, Cond.static Lib.Math.min.name, Cond.initialized "java/lang/Math", Cond.code Lib.Math.min.name Lib.Math.min.code 2 (some .int), Cond.constantLong RX5 159 (10), Cond.constantLong RX5 161 (1000000000), Cond.methodLink RX5 151 yX5_behind]
def wsX5_count_r3 : List Cond := [Cond.instanceMethod yX5_behind, Cond.selects RX5 yX5_behind yX5_behind, Cond.code yX5_behind cX5_behind 4 (some .int), Cond.methodLink RX5 97 yX5_couponDay, Cond.instanceMethod yX5_couponDay, Cond.selects RX5 yX5_couponDay yX5_couponDay, Cond.code yX5_couponDay cX5_couponDay 3 (some .int), Cond.fieldLink RX5 34 "BondDeskModel" "day" "[I", Cond.methodLink RX5 100 yX5_isSunk, Cond.instanceMethod yX5_isSunk, Cond.selects RX5 yX5_isSunk yX5_isSunk, Cond.code yX5_isSunk cX5_isSunk 3 (some .boolean), Cond.methodLink RX5 143 yX5_coupon, Cond.instanceMethod yX5_coupon, Cond.selects RX5 yX5_coupon yX5_coupon, Cond.code yX5_coupon cX5_coupon 5 (some .int), Cond.methodLink RX5 134 yX5_interest, Cond.instanceMethod yX5_interest, Cond.selects RX5 yX5_interest yX5_interest, Cond.code yX5_interest cX5_interest 8 (some .int), Cond.constantLong RX5 128 (3600000), Cond.methodLink RX5 125 yX5_thirty, Cond.static yX5_thirty, Cond.code yX5_thirty cX5_thirty 4 (some .int)]
def wsX5_count_r4 : List Cond := [Cond.methodLink RX5 67 yX5_no, Cond.instanceMethod yX5_no, Cond.selects RX5 yX5_no yX5_no, Cond.code yX5_no cX5_no 2 (some .int)]
def wsX5_count : List Cond := .code yX5_count cX5_count 2 (some .long) :: ((wsX5_count_r1 ++ (wsX5_count_r2 ++ (wsX5_count_r3 ++ wsX5_count_r4))) ++ wsX50)
def wsX5_paysIn_r1 : List Cond := [Cond.fieldLink RX5 41 "BondDeskModel" "thrown" "I", Cond.fieldLink RX5 77 "BondDeskModel" "bonds" "I", Cond.fieldLink RX5 14 "BondDeskModel" "today" "I", Cond.methodLink RX5 80 Lib.Math.min.name, Cond.static Lib.Math.min.name, Cond.initialized "java/lang/Math", Cond.code Lib.Math.min.name Lib.Math.min.code 2 (some .int), Cond.constantLong RX5 159 (10), Cond.methodLink RX5 46 yX5_isIn, Cond.static yX5_isIn, Cond.initialized RX5, Cond.code yX5_isIn cX5_isIn 3 (some .boolean), Cond.methodLink RX5 67 yX5_no, Cond.instanceMethod yX5_no, Cond.selects RX5 yX5_no yX5_no, Cond.code yX5_no cX5_no 2 (some .int), Cond.methodLink RX5 94 yX5_own, Cond.instanceMethod yX5_own, Cond.selects RX5 yX5_own yX5_own, Cond.code yX5_own cX5_own 3 (some .int), Cond.fieldLink RX5 31 "BondDeskModel" "of" "[I", Cond.methodLink RX5 151 yX5_behind, Cond.instanceMethod yX5_behind, Cond.selects RX5 yX5_behind yX5_behind]
def wsX5_paysIn_r2 : List Cond := [Cond.code yX5_behind cX5_behind 4 (some .int), Cond.methodLink RX5 97 yX5_couponDay, Cond.instanceMethod yX5_couponDay, Cond.selects RX5 yX5_couponDay yX5_couponDay, Cond.code yX5_couponDay cX5_couponDay 3 (some .int), Cond.fieldLink RX5 34 "BondDeskModel" "day" "[I", Cond.methodLink RX5 100 yX5_isSunk, Cond.instanceMethod yX5_isSunk, Cond.selects RX5 yX5_isSunk yX5_isSunk, Cond.code yX5_isSunk cX5_isSunk 3 (some .boolean), Cond.methodLink RX5 70 yX5_date, Cond.static yX5_date, Cond.code yX5_date cX5_date 4 (some .int), Cond.methodLink RX5 50 yX5_length, Cond.static yX5_length, Cond.code yX5_length cX5_length 2 (some .int), Cond.methodLink RX5 143 yX5_coupon, Cond.instanceMethod yX5_coupon, Cond.selects RX5 yX5_coupon yX5_coupon, Cond.code yX5_coupon cX5_coupon 5 (some .int), Cond.constantLong RX5 132 (10000), Cond.methodLink RX5 134 yX5_interest, Cond.instanceMethod yX5_interest, Cond.selects RX5 yX5_interest yX5_interest]
def wsX5_paysIn_r3 : List Cond := [Cond.code yX5_interest cX5_interest 8 (some .int), Cond.constantLong RX5 128 (3600000), Cond.constantLong RX5 130 (3650000), Cond.methodLink RX5 125 yX5_thirty, Cond.static yX5_thirty, Cond.code yX5_thirty cX5_thirty 4 (some .int)]
def wsX5_paysIn : List Cond := .code yX5_paysIn cX5_paysIn 8 (some .long) :: ((wsX5_paysIn_r1 ++ (wsX5_paysIn_r2 ++ wsX5_paysIn_r3)) ++ wsX50)
def wsX5_ladder_r1 : List Cond := [Cond.fieldLink RX5 41 "BondDeskModel" "thrown" "I", Cond.constantLong RX5 195 (-1), Cond.fieldLink RX5 77 "BondDeskModel" "bonds" "I", Cond.fieldLink RX5 14 "BondDeskModel" "today" "I", Cond.fieldLink RX5 24 "BondDeskModel" "rate" "I", Cond.constantLong RX5 197 (1000000), Cond.fieldLink RX5 20 "BondDeskModel" "cash" "J", Cond.methodLink RX5 199 Lib.MathLoose.min_long.x, Cond.static Lib.MathLoose.min_long.x, Cond.initialized "java/lang/Math", Cond.code Lib.MathLoose.min_long.x Lib.MathLoose.min_long.code 4 (some .long), Cond.methodLink RX5 46 yX5_isIn, Cond.static yX5_isIn, Cond.initialized RX5, Cond.code yX5_isIn cX5_isIn 3 (some .boolean), Cond.methodLink RX5 67 yX5_no, Cond.instanceMethod yX5_no, Cond.selects RX5 yX5_no yX5_no, Cond.code yX5_no cX5_no 2 (some .int), Cond.methodLink RX5 110 yX5_isThere, Cond.instanceMethod yX5_isThere, Cond.selects RX5 yX5_isThere yX5_isThere, Cond.code yX5_isThere cX5_isThere 2 (some .boolean), Cond.methodLink RX5 94 yX5_own]
def wsX5_ladder_r2 : List Cond := [Cond.instanceMethod yX5_own, Cond.selects RX5 yX5_own yX5_own, Cond.code yX5_own cX5_own 3 (some .int), Cond.fieldLink RX5 31 "BondDeskModel" "of" "[I", Cond.methodLink RX5 70 yX5_date, Cond.static yX5_date, Cond.code yX5_date cX5_date 4 (some .int), Cond.methodLink RX5 50 yX5_length, Cond.static yX5_length, Cond.code yX5_length cX5_length 2 (some .int), Cond.methodLink RX5 167 yX5_worthNow, Cond.instanceMethod yX5_worthNow, Cond.selects RX5 yX5_worthNow yX5_worthNow, Cond.code yX5_worthNow cX5_worthNow 3 (some .long), Cond.methodLink RX5 163 yX5_worthOn, Cond.instanceMethod yX5_worthOn, Cond.selects RX5 yX5_worthOn yX5_worthOn, Cond.code yX5_worthOn cX5_worthOn 15 (some .long), Cond.constantLong RX5 132 (10000), Cond.constantLong RX5 157 (3650000000000000), Cond.constantLong RX5 130 (3650000), Cond.methodLink RX5 80 Lib.Math.min.name, Cond.static Lib.Math.min.name, Cond.code Lib.Math.min.name Lib.Math.min.code 2 (some .int)]
def wsX5_ladder_r3 : List Cond := [Cond.constantLong RX5 159 (10), Cond.constantLong RX5 161 (1000000000), Cond.methodLink RX5 151 yX5_behind, Cond.instanceMethod yX5_behind, Cond.selects RX5 yX5_behind yX5_behind, Cond.code yX5_behind cX5_behind 4 (some .int), Cond.methodLink RX5 97 yX5_couponDay, Cond.instanceMethod yX5_couponDay, Cond.selects RX5 yX5_couponDay yX5_couponDay, Cond.code yX5_couponDay cX5_couponDay 3 (some .int), Cond.fieldLink RX5 34 "BondDeskModel" "day" "[I", Cond.methodLink RX5 100 yX5_isSunk, Cond.instanceMethod yX5_isSunk, Cond.selects RX5 yX5_isSunk yX5_isSunk, Cond.code yX5_isSunk cX5_isSunk 3 (some .boolean), Cond.methodLink RX5 143 yX5_coupon, Cond.instanceMethod yX5_coupon, Cond.selects RX5 yX5_coupon yX5_coupon, Cond.code yX5_coupon cX5_coupon 5 (some .int), Cond.methodLink RX5 134 yX5_interest, Cond.instanceMethod yX5_interest, Cond.selects RX5 yX5_interest yX5_interest, Cond.code yX5_interest cX5_interest 8 (some .int), Cond.constantLong RX5 128 (3600000)]
def wsX5_ladder_r4 : List Cond := [Cond.methodLink RX5 125 yX5_thirty, Cond.static yX5_thirty, Cond.code yX5_thirty cX5_thirty 4 (some .int)]
def wsX5_ladder : List Cond := .code yX5_ladder cX5_ladder 11 (some .int) :: ((wsX5_ladder_r1 ++ (wsX5_ladder_r2 ++ (wsX5_ladder_r3 ++ wsX5_ladder_r4))) ++ wsX50)
def wsX5_best_r1 : List Cond := [Cond.fieldLink RX5 41 "BondDeskModel" "thrown" "I", Cond.fieldLink RX5 77 "BondDeskModel" "bonds" "I", Cond.fieldLink RX5 14 "BondDeskModel" "today" "I", Cond.methodLink RX5 46 yX5_isIn, Cond.static yX5_isIn, Cond.initialized RX5, Cond.code yX5_isIn cX5_isIn 3 (some .boolean), Cond.methodLink RX5 67 yX5_no, Cond.instanceMethod yX5_no, Cond.selects RX5 yX5_no yX5_no, Cond.code yX5_no cX5_no 2 (some .int), Cond.methodLink RX5 94 yX5_own, Cond.instanceMethod yX5_own, Cond.selects RX5 yX5_own yX5_own, Cond.code yX5_own cX5_own 3 (some .int), Cond.fieldLink RX5 31 "BondDeskModel" "of" "[I", Cond.methodLink RX5 174 yX5_yielded, Cond.instanceMethod yX5_yielded, Cond.selects RX5 yX5_yielded yX5_yielded, Cond.code yX5_yielded cX5_yielded 8 (some .int), Cond.methodLink RX5 110 yX5_isThere, Cond.instanceMethod yX5_isThere, Cond.selects RX5 yX5_isThere yX5_isThere, Cond.code yX5_isThere cX5_isThere 2 (some .boolean)]
def wsX5_best_r2 : List Cond := [Cond.methodLink RX5 171 yX5_fullPrice, Cond.instanceMethod yX5_fullPrice, Cond.selects RX5 yX5_fullPrice yX5_fullPrice, Cond.code yX5_fullPrice cX5_fullPrice 3 (some .long), Cond.constantLong RX5 159 (10), Cond.constantLong RX5 132 (10000), Cond.methodLink RX5 154 yX5_accruedOn, Cond.instanceMethod yX5_accruedOn, Cond.selects RX5 yX5_accruedOn yX5_accruedOn, Cond.code yX5_accruedOn cX5_accruedOn 4 (some .int), Cond.methodLink RX5 151 yX5_behind, Cond.instanceMethod yX5_behind, Cond.selects RX5 yX5_behind yX5_behind, Cond.code yX5_behind cX5_behind 4 (some .int), Cond.methodLink RX5 97 yX5_couponDay, Cond.instanceMethod yX5_couponDay, Cond.selects RX5 yX5_couponDay yX5_couponDay, Cond.code yX5_couponDay cX5_couponDay 3 (some .int), Cond.fieldLink RX5 34 "BondDeskModel" "day" "[I", Cond.methodLink RX5 138 yX5_beginning, Cond.instanceMethod yX5_beginning, Cond.selects RX5 yX5_beginning yX5_beginning, Cond.code yX5_beginning cX5_beginning 3 (some .int), Cond.methodLink RX5 104 Lib.Math.max.name]
def wsX5_best_r3 : List Cond := [Cond.static Lib.Math.max.name, Cond.initialized "java/lang/Math", Cond.code Lib.Math.max.name Lib.Math.max.code 2 (some .int), Cond.methodLink RX5 134 yX5_interest, Cond.instanceMethod yX5_interest, Cond.selects RX5 yX5_interest yX5_interest, Cond.code yX5_interest cX5_interest 8 (some .int), Cond.constantLong RX5 128 (3600000), Cond.constantLong RX5 130 (3650000), Cond.methodLink RX5 70 yX5_date, Cond.static yX5_date, Cond.code yX5_date cX5_date 4 (some .int), Cond.methodLink RX5 50 yX5_length, Cond.static yX5_length, Cond.code yX5_length cX5_length 2 (some .int), Cond.methodLink RX5 125 yX5_thirty, Cond.static yX5_thirty, Cond.code yX5_thirty cX5_thirty 4 (some .int), Cond.methodLink RX5 80 Lib.Math.min.name, Cond.static Lib.Math.min.name, Cond.code Lib.Math.min.name Lib.Math.min.code 2 (some .int), Cond.methodLink RX5 167 yX5_worthNow, Cond.instanceMethod yX5_worthNow, Cond.selects RX5 yX5_worthNow yX5_worthNow]
def wsX5_best_r4 : List Cond := [Cond.code yX5_worthNow cX5_worthNow 3 (some .long), Cond.methodLink RX5 163 yX5_worthOn, Cond.instanceMethod yX5_worthOn, Cond.selects RX5 yX5_worthOn yX5_worthOn, Cond.code yX5_worthOn cX5_worthOn 15 (some .long), Cond.constantLong RX5 157 (3650000000000000), Cond.constantLong RX5 161 (1000000000), Cond.methodLink RX5 100 yX5_isSunk, Cond.instanceMethod yX5_isSunk, Cond.selects RX5 yX5_isSunk yX5_isSunk, Cond.code yX5_isSunk cX5_isSunk 3 (some .boolean), Cond.methodLink RX5 143 yX5_coupon, Cond.instanceMethod yX5_coupon, Cond.selects RX5 yX5_coupon yX5_coupon, Cond.code yX5_coupon cX5_coupon 5 (some .int)]
def wsX5_best : List Cond := .code yX5_best cX5_best 6 (some .int) :: ((wsX5_best_r1 ++ (wsX5_best_r2 ++ (wsX5_best_r3 ++ wsX5_best_r4))) ++ wsX50)
def wsX5_years : List Cond := .code yX5_years cX5_years 8 (some .double) :: ([.fieldLink RX5 41 "BondDeskModel" "thrown" "I", .fieldLink RX5 77 "BondDeskModel" "bonds" "I", .constantLong RX5 159 (10), .fieldLink RX5 14 "BondDeskModel" "today" "I", .constantDouble RX5 202 (4645128764097822720), .methodLink RX5 94 yX5_own, .instanceMethod yX5_own, .selects RX5 yX5_own yX5_own, .initialized RX5, .code yX5_own cX5_own 3 (some .int), .fieldLink RX5 31 "BondDeskModel" "of" "[I"] ++ wsX50)
def wsX5_digest_r1 : List Cond := [Cond.fieldLink RX5 41 "BondDeskModel" "thrown" "I", Cond.constantLong RX5 204 (647), Cond.constantLong RX5 206 (31), Cond.fieldLink RX5 57 "BondDeskModel" "holidays" "I", Cond.fieldLink RX5 27 "BondDeskModel" "holiday" "[I", Cond.fieldLink RX5 77 "BondDeskModel" "bonds" "I", Cond.fieldLink RX5 14 "BondDeskModel" "today" "I", Cond.methodLink RX5 192 yX5_counted, Cond.instanceMethod yX5_counted, Cond.selects RX5 yX5_counted yX5_counted, Cond.initialized RX5, Cond.code yX5_counted cX5_counted 9 (some .long), Cond.fieldLink RX5 20 "BondDeskModel" "cash" "J", Cond.fieldLink RX5 24 "BondDeskModel" "rate" "I", Cond.fieldLink RX5 37 "BondDeskModel" "paid" "[J", Cond.methodLink RX5 110 yX5_isThere, Cond.instanceMethod yX5_isThere, Cond.selects RX5 yX5_isThere yX5_isThere, Cond.code yX5_isThere cX5_isThere 2 (some .boolean), Cond.methodLink RX5 94 yX5_own, Cond.instanceMethod yX5_own, Cond.selects RX5 yX5_own yX5_own, Cond.code yX5_own cX5_own 3 (some .int), Cond.fieldLink RX5 31 "BondDeskModel" "of" "[I"]
def wsX5_digest_r2 : List Cond := [Cond.methodLink RX5 70 yX5_date, Cond.static yX5_date, Cond.code yX5_date cX5_date 4 (some .int), Cond.methodLink RX5 50 yX5_length, Cond.static yX5_length, Cond.code yX5_length cX5_length 2 (some .int), Cond.methodLink RX5 167 yX5_worthNow, Cond.instanceMethod yX5_worthNow, Cond.selects RX5 yX5_worthNow yX5_worthNow, Cond.code yX5_worthNow cX5_worthNow 3 (some .long), Cond.methodLink RX5 163 yX5_worthOn, Cond.instanceMethod yX5_worthOn, Cond.selects RX5 yX5_worthOn yX5_worthOn, Cond.code yX5_worthOn cX5_worthOn 15 (some .long), Cond.constantLong RX5 132 (10000), Cond.constantLong RX5 157 (3650000000000000), Cond.constantLong RX5 130 (3650000), Cond.methodLink RX5 80 Lib.Math.min.name, Cond.static Lib.Math.min.name, Cond.initialized "java/lang/Math", Cond.code Lib.Math.min.name Lib.Math.min.code 2 (some .int), Cond.constantLong RX5 159 (10), Cond.constantLong RX5 161 (1000000000), Cond.methodLink RX5 151 yX5_behind]
def wsX5_digest_r3 : List Cond := [Cond.instanceMethod yX5_behind, Cond.selects RX5 yX5_behind yX5_behind, Cond.code yX5_behind cX5_behind 4 (some .int), Cond.methodLink RX5 97 yX5_couponDay, Cond.instanceMethod yX5_couponDay, Cond.selects RX5 yX5_couponDay yX5_couponDay, Cond.code yX5_couponDay cX5_couponDay 3 (some .int), Cond.fieldLink RX5 34 "BondDeskModel" "day" "[I", Cond.methodLink RX5 100 yX5_isSunk, Cond.instanceMethod yX5_isSunk, Cond.selects RX5 yX5_isSunk yX5_isSunk, Cond.code yX5_isSunk cX5_isSunk 3 (some .boolean), Cond.methodLink RX5 143 yX5_coupon, Cond.instanceMethod yX5_coupon, Cond.selects RX5 yX5_coupon yX5_coupon, Cond.code yX5_coupon cX5_coupon 5 (some .int), Cond.methodLink RX5 134 yX5_interest, Cond.instanceMethod yX5_interest, Cond.selects RX5 yX5_interest yX5_interest, Cond.code yX5_interest cX5_interest 8 (some .int), Cond.constantLong RX5 128 (3600000), Cond.methodLink RX5 125 yX5_thirty, Cond.static yX5_thirty, Cond.code yX5_thirty cX5_thirty 4 (some .int)]
def wsX5_digest_r4 : List Cond := [Cond.methodLink RX5 122 yX5_told, Cond.instanceMethod yX5_told, Cond.selects RX5 yX5_told yX5_told, Cond.code yX5_told cX5_told 3 (some .int), Cond.methodLink RX5 154 yX5_accruedOn, Cond.instanceMethod yX5_accruedOn, Cond.selects RX5 yX5_accruedOn yX5_accruedOn, Cond.code yX5_accruedOn cX5_accruedOn 4 (some .int), Cond.methodLink RX5 138 yX5_beginning, Cond.instanceMethod yX5_beginning, Cond.selects RX5 yX5_beginning yX5_beginning, Cond.code yX5_beginning cX5_beginning 3 (some .int), Cond.methodLink RX5 104 Lib.Math.max.name, Cond.static Lib.Math.max.name, Cond.code Lib.Math.max.name Lib.Math.max.code 2 (some .int), Cond.methodLink RX5 147 yX5_couponTold, Cond.instanceMethod yX5_couponTold, Cond.selects RX5 yX5_couponTold yX5_couponTold, Cond.code yX5_couponTold cX5_couponTold 4 (some .int), Cond.constantLong RX5 141 (100000), Cond.methodLink RX5 74 yX5_firstWorking, Cond.instanceMethod yX5_firstWorking, Cond.selects RX5 yX5_firstWorking yX5_firstWorking, Cond.code yX5_firstWorking cX5_firstWorking 3 (some .int)]
def wsX5_digest_r5 : List Cond := [Cond.methodLink RX5 60 yX5_isWorking, Cond.instanceMethod yX5_isWorking, Cond.selects RX5 yX5_isWorking yX5_isWorking, Cond.code yX5_isWorking cX5_isWorking 4 (some .boolean), Cond.methodLink RX5 54 yX5_weekday, Cond.static yX5_weekday, Cond.code yX5_weekday cX5_weekday 2 (some .int)]
def wsX5_digest : List Cond := .code yX5_digest cX5_digest 5 (some .long) :: ((wsX5_digest_r1 ++ (wsX5_digest_r2 ++ (wsX5_digest_r3 ++ (wsX5_digest_r4 ++ wsX5_digest_r5)))) ++ wsX50)
def wsJ9_max_7cf53 : List Cond := .code yJ9_max_7cf53 cJ9_max_7cf53 2 (some .int) :: ([])
def wsJ9_min_7cf53 : List Cond := .code yJ9_min_7cf53 cJ9_min_7cf53 2 (some .int) :: ([])
def wsJ9_min_f86c9 : List Cond := .code yJ9_min_f86c9 cJ9_min_f86c9 4 (some .long) :: ([])
def wsL_later_r1 : List Cond := [Cond.classLink RL 13 "java/lang/IllegalArgumentException", Cond.methodLink RL 7 yX4_later, Cond.instanceMethod yX4_later, Cond.selects RX4 yX4_later yX4_later, Cond.initialized RX4, Cond.code yX4_later cX4_later 4 (some .int), Cond.classLink RX4 44 "java/lang/IllegalArgumentException", Cond.initialized "java/lang/IllegalArgumentException", Cond.constant RX4 57 (20661231), Cond.methodLink RX4 40 yX4_requireDate, Cond.static yX4_requireDate, Cond.code yX4_requireDate cX4_requireDate 1 none, Cond.methodLink RX4 84 yX1_isDate, Cond.static yX1_isDate, Cond.initialized RX1, Cond.code yX1_isDate cX1_isDate 3 (some .boolean), Cond.constant RX1 11 (20160101), Cond.constant RX1 12 (20661231), Cond.methodLink RX1 13 yX1_monthOf, Cond.static yX1_monthOf, Cond.code yX1_monthOf cX1_monthOf 1 (some .int), Cond.methodLink RX1 17 yX1_dayOf, Cond.static yX1_dayOf, Cond.code yX1_dayOf cX1_dayOf 1 (some .int)]
def wsL_later_r2 : List Cond := [Cond.methodLink RX1 20 yX1_yearOf, Cond.static yX1_yearOf, Cond.code yX1_yearOf cX1_yearOf 1 (some .int), Cond.methodLink RX1 23 yX1_monthLength, Cond.static yX1_monthLength, Cond.code yX1_monthLength cX1_monthLength 2 (some .int), Cond.methodLink RX4 51 yX1_dayNumber, Cond.static yX1_dayNumber, Cond.code yX1_dayNumber cX1_dayNumber 5 (some .int), Cond.fieldLink RX1 27 "BondDesk$Dates" "AHEAD" "[I", Cond.methodLink RX4 60 yX1_dateOf, Cond.static yX1_dateOf, Cond.code yX1_dateOf cX1_dateOf 5 (some .int)]
def wsL_later : List Cond := .codeWith yL_later cL_later 5 (some .int) [(0, 10, 13, 13)] :: ((wsL_later_r1 ++ wsL_later_r2) ++ (vx_atS RX4 48 "java/lang/IllegalArgumentException" ["java/lang/RuntimeException", "java/lang/Exception"]).filter goodWord)
def wsL_weekday_r1 : List Cond := [Cond.classLink RL 13 "java/lang/IllegalArgumentException", Cond.methodLink RL 15 yX4_weekday, Cond.instanceMethod yX4_weekday, Cond.selects RX4 yX4_weekday yX4_weekday, Cond.initialized RX4, Cond.code yX4_weekday cX4_weekday 2 (some .int), Cond.methodLink RX4 40 yX4_requireDate, Cond.static yX4_requireDate, Cond.code yX4_requireDate cX4_requireDate 1 none, Cond.classLink RX4 44 "java/lang/IllegalArgumentException", Cond.initialized "java/lang/IllegalArgumentException", Cond.methodLink RX4 84 yX1_isDate, Cond.static yX1_isDate, Cond.initialized RX1, Cond.code yX1_isDate cX1_isDate 3 (some .boolean), Cond.constant RX1 11 (20160101), Cond.constant RX1 12 (20661231), Cond.methodLink RX1 13 yX1_monthOf, Cond.static yX1_monthOf, Cond.code yX1_monthOf cX1_monthOf 1 (some .int), Cond.methodLink RX1 17 yX1_dayOf, Cond.static yX1_dayOf, Cond.code yX1_dayOf cX1_dayOf 1 (some .int), Cond.methodLink RX1 20 yX1_yearOf]
def wsL_weekday_r2 : List Cond := [Cond.static yX1_yearOf, Cond.code yX1_yearOf cX1_yearOf 1 (some .int), Cond.methodLink RX1 23 yX1_monthLength, Cond.static yX1_monthLength, Cond.code yX1_monthLength cX1_monthLength 2 (some .int), Cond.methodLink RX4 51 yX1_dayNumber, Cond.static yX1_dayNumber, Cond.code yX1_dayNumber cX1_dayNumber 5 (some .int), Cond.fieldLink RX1 27 "BondDesk$Dates" "AHEAD" "[I", Cond.methodLink RX4 63 yX1_dayOfWeek, Cond.static yX1_dayOfWeek, Cond.code yX1_dayOfWeek cX1_dayOfWeek 1 (some .int)]
def wsL_weekday : List Cond := .codeWith yL_weekday cL_weekday 4 (some .int) [(0, 9, 12, 13)] :: ((wsL_weekday_r1 ++ wsL_weekday_r2) ++ (vx_atS RX4 48 "java/lang/IllegalArgumentException" ["java/lang/RuntimeException", "java/lang/Exception"]).filter goodWord)
def wsL_addHoliday_r1 : List Cond := [Cond.classLink RL 13 "java/lang/IllegalArgumentException", Cond.classLink RL 22 "java/lang/IllegalStateException", Cond.methodLink RL 19 yX4_addHoliday, Cond.instanceMethod yX4_addHoliday, Cond.selects RX4 yX4_addHoliday yX4_addHoliday, Cond.initialized RX4, Cond.code yX4_addHoliday cX4_addHoliday 2 (some .int), Cond.classLink RX4 73 "java/lang/IllegalStateException", Cond.initialized "java/lang/IllegalStateException", Cond.fieldLink RX4 70 "BondDesk" "holidayCount" "I", Cond.fieldLink RX4 9 "BondDesk" "holidays" "[I", Cond.methodLink RX4 40 yX4_requireDate, Cond.static yX4_requireDate, Cond.code yX4_requireDate cX4_requireDate 1 none, Cond.classLink RX4 44 "java/lang/IllegalArgumentException", Cond.initialized "java/lang/IllegalArgumentException", Cond.methodLink RX4 84 yX1_isDate, Cond.static yX1_isDate, Cond.initialized RX1, Cond.code yX1_isDate cX1_isDate 3 (some .boolean), Cond.constant RX1 11 (20160101), Cond.constant RX1 12 (20661231), Cond.methodLink RX1 13 yX1_monthOf, Cond.static yX1_monthOf]
def wsL_addHoliday_r2 : List Cond := [Cond.code yX1_monthOf cX1_monthOf 1 (some .int), Cond.methodLink RX1 17 yX1_dayOf, Cond.static yX1_dayOf, Cond.code yX1_dayOf cX1_dayOf 1 (some .int), Cond.methodLink RX1 20 yX1_yearOf, Cond.static yX1_yearOf, Cond.code yX1_yearOf cX1_yearOf 1 (some .int), Cond.methodLink RX1 23 yX1_monthLength, Cond.static yX1_monthLength, Cond.code yX1_monthLength cX1_monthLength 2 (some .int), Cond.methodLink RX4 66 yX4_isHoliday, Cond.instanceMethod yX4_isHoliday, Cond.selects RX4 yX4_isHoliday yX4_isHoliday, Cond.code yX4_isHoliday cX4_isHoliday 6 (some .boolean)]
def wsL_addHoliday : List Cond := .codeWith yL_addHoliday cL_addHoliday 4 (some .int) [(0, 9, 12, 13), (0, 9, 15, 22)] :: ((wsL_addHoliday_r1 ++ wsL_addHoliday_r2) ++ wsX40 ++ (vx_atS RX4 77 "java/lang/IllegalStateException" ["java/lang/RuntimeException", "java/lang/Exception"]).filter goodWord ++ (vx_atS RX4 48 "java/lang/IllegalArgumentException" ["java/lang/RuntimeException", "java/lang/Exception"]).filter goodWord)
def wsL_working_r1 : List Cond := [Cond.classLink RL 13 "java/lang/IllegalArgumentException", Cond.methodLink RL 24 yX4_working, Cond.instanceMethod yX4_working, Cond.selects RX4 yX4_working yX4_working, Cond.initialized RX4, Cond.code yX4_working cX4_working 2 (some .int), Cond.classLink RX4 44 "java/lang/IllegalArgumentException", Cond.initialized "java/lang/IllegalArgumentException", Cond.constant RX4 78 (20661101), Cond.methodLink RX4 40 yX4_requireDate, Cond.static yX4_requireDate, Cond.code yX4_requireDate cX4_requireDate 1 none, Cond.methodLink RX4 84 yX1_isDate, Cond.static yX1_isDate, Cond.initialized RX1, Cond.code yX1_isDate cX1_isDate 3 (some .boolean), Cond.constant RX1 11 (20160101), Cond.constant RX1 12 (20661231), Cond.methodLink RX1 13 yX1_monthOf, Cond.static yX1_monthOf, Cond.code yX1_monthOf cX1_monthOf 1 (some .int), Cond.methodLink RX1 17 yX1_dayOf, Cond.static yX1_dayOf, Cond.code yX1_dayOf cX1_dayOf 1 (some .int)]
def wsL_working_r2 : List Cond := [Cond.methodLink RX1 20 yX1_yearOf, Cond.static yX1_yearOf, Cond.code yX1_yearOf cX1_yearOf 1 (some .int), Cond.methodLink RX1 23 yX1_monthLength, Cond.static yX1_monthLength, Cond.code yX1_monthLength cX1_monthLength 2 (some .int), Cond.methodLink RX4 81 yX4_nextWorkingDate, Cond.instanceMethod yX4_nextWorkingDate, Cond.selects RX4 yX4_nextWorkingDate yX4_nextWorkingDate, Cond.code yX4_nextWorkingDate cX4_nextWorkingDate 4 (some .int), Cond.methodLink RX4 51 yX1_dayNumber, Cond.static yX1_dayNumber, Cond.code yX1_dayNumber cX1_dayNumber 5 (some .int), Cond.fieldLink RX1 27 "BondDesk$Dates" "AHEAD" "[I", Cond.methodLink RX4 89 yX4_isWorkingDay, Cond.instanceMethod yX4_isWorkingDay, Cond.selects RX4 yX4_isWorkingDay yX4_isWorkingDay, Cond.code yX4_isWorkingDay cX4_isWorkingDay 2 (some .boolean), Cond.methodLink RX4 63 yX1_dayOfWeek, Cond.static yX1_dayOfWeek, Cond.code yX1_dayOfWeek cX1_dayOfWeek 1 (some .int), Cond.methodLink RX4 60 yX1_dateOf, Cond.static yX1_dateOf, Cond.code yX1_dateOf cX1_dateOf 5 (some .int)]
def wsL_working_r3 : List Cond := [Cond.methodLink RX4 66 yX4_isHoliday, Cond.instanceMethod yX4_isHoliday, Cond.selects RX4 yX4_isHoliday yX4_isHoliday, Cond.code yX4_isHoliday cX4_isHoliday 6 (some .boolean), Cond.fieldLink RX4 9 "BondDesk" "holidays" "[I"]
def wsL_working : List Cond := .codeWith yL_working cL_working 4 (some .int) [(0, 9, 12, 13)] :: ((wsL_working_r1 ++ (wsL_working_r2 ++ wsL_working_r3)) ++ wsX40 ++ (vx_atS RX4 48 "java/lang/IllegalArgumentException" ["java/lang/RuntimeException", "java/lang/Exception"]).filter goodWord)
def wsL_addBond_r1 : List Cond := [Cond.classLink RL 13 "java/lang/IllegalArgumentException", Cond.classLink RL 22 "java/lang/IllegalStateException", Cond.methodLink RL 27 yX4_addBond, Cond.instanceMethod yX4_addBond, Cond.selects RX4 yX4_addBond yX4_addBond, Cond.initialized RX4, Cond.code yX4_addBond cX4_addBond 7 (some .int), Cond.classLink RX4 44 "java/lang/IllegalArgumentException", Cond.initialized "java/lang/IllegalArgumentException", Cond.classLink RX4 73 "java/lang/IllegalStateException", Cond.initialized "java/lang/IllegalStateException", Cond.constant RX4 111 (20160101), Cond.fieldLink RX4 114 "BondDesk" "bondCount" "I", Cond.fieldLink RX4 15 "BondDesk" "bonds" "[LBondDesk$Bond;", Cond.classLink RX4 13 RX0, Cond.instantiable RX0 9, Cond.initialized RX0, Cond.classLink RX4 101 RX3, Cond.instantiable RX3 9, Cond.initialized RX3, Cond.fieldLink RX4 27 "BondDesk" "today" "I", Cond.methodLink RX4 92 yX4_requireLife, Cond.instanceMethod yX4_requireLife, Cond.selects RX4 yX4_requireLife yX4_requireLife]
def wsL_addBond_r2 : List Cond := [Cond.code yX4_requireLife cX4_requireLife 3 none, Cond.constant RX4 78 (20661101), Cond.methodLink RX4 40 yX4_requireDate, Cond.static yX4_requireDate, Cond.code yX4_requireDate cX4_requireDate 1 none, Cond.methodLink RX4 84 yX1_isDate, Cond.static yX1_isDate, Cond.initialized RX1, Cond.code yX1_isDate cX1_isDate 3 (some .boolean), Cond.constant RX1 11 (20160101), Cond.constant RX1 12 (20661231), Cond.methodLink RX1 13 yX1_monthOf, Cond.static yX1_monthOf, Cond.code yX1_monthOf cX1_monthOf 1 (some .int), Cond.methodLink RX1 17 yX1_dayOf, Cond.static yX1_dayOf, Cond.code yX1_dayOf cX1_dayOf 1 (some .int), Cond.methodLink RX1 20 yX1_yearOf, Cond.static yX1_yearOf, Cond.code yX1_yearOf cX1_yearOf 1 (some .int), Cond.methodLink RX1 23 yX1_monthLength, Cond.static yX1_monthLength, Cond.code yX1_monthLength cX1_monthLength 2 (some .int), Cond.methodLink RX4 96 yX4_requireTerms]
def wsL_addBond_r3 : List Cond := [Cond.static yX4_requireTerms, Cond.code yX4_requireTerms cX4_requireTerms 3 none, Cond.methodLink RX4 163 yX4_requireRate, Cond.static yX4_requireRate, Cond.code yX4_requireRate cX4_requireRate 1 none, Cond.methodLink RX4 100 yX3_countCoupons, Cond.static yX3_countCoupons, Cond.code yX3_countCoupons cX3_countCoupons 4 (some .int), Cond.methodLink RX3 25 yX3_dateBack, Cond.static yX3_dateBack, Cond.code yX3_dateBack cX3_dateBack 3 (some .int), Cond.methodLink RX3 60 yX1_monthsBack, Cond.static yX1_monthsBack, Cond.code yX1_monthsBack cX1_monthsBack 8 (some .int), Cond.methodLink RX1 34 Lib.Math.min.name, Cond.static Lib.Math.min.name, Cond.initialized "java/lang/Math", Cond.code Lib.Math.min.name Lib.Math.min.code 2 (some .int), Cond.methodLink RX4 108 yX3_dateBack, Cond.methodLink RX4 119 yX3_init, Cond.instanceMethod yX3_init, Cond.code yX3_init cX3_init 8 none, Cond.methodLink RX3 1 objectInit, Cond.instanceMethod objectInit]
def wsL_addBond_r4 : List Cond := [Cond.code objectInit ⟨#[0xb1]⟩ 1 none, Cond.fieldLink RX3 7 "BondDesk$Schedule" "issue" "I", Cond.fieldLink RX3 13 "BondDesk$Schedule" "end" "I", Cond.fieldLink RX3 16 "BondDesk$Schedule" "rate" "I", Cond.fieldLink RX3 19 "BondDesk$Schedule" "perYear" "I", Cond.fieldLink RX3 22 "BondDesk$Schedule" "way" "I", Cond.fieldLink RX3 29 "BondDesk$Schedule" "regularBegin" "I", Cond.methodLink RX3 32 Lib.Math.min.name, Cond.methodLink RX3 38 Lib.Math.max.name, Cond.static Lib.Math.max.name, Cond.code Lib.Math.max.name Lib.Math.max.code 2 (some .int), Cond.arrayClass .int, Cond.fieldLink RX3 41 "BondDesk$Schedule" "dates" "[I", Cond.fieldLink RX3 49 "BondDesk$Schedule" "firstDays" "J", Cond.fieldLink RX3 57 "BondDesk$Schedule" "firstYear" "J", Cond.methodLink RX3 45 yX3_daysCounted, Cond.instanceMethod yX3_daysCounted, Cond.selects RX3 yX3_daysCounted yX3_daysCounted, Cond.code yX3_daysCounted cX3_daysCounted 3 (some .long), Cond.methodLink RX3 74 yX1_daysOf30, Cond.static yX1_daysOf30, Cond.code yX1_daysOf30 cX1_daysOf30 4 (some .int), Cond.methodLink RX3 77 yX1_daysBetween, Cond.static yX1_daysBetween]
def wsL_addBond_r5 : List Cond := [Cond.code yX1_daysBetween cX1_daysBetween 2 (some .int), Cond.methodLink RX1 31 yX1_dayNumber, Cond.static yX1_dayNumber, Cond.code yX1_dayNumber cX1_dayNumber 5 (some .int), Cond.fieldLink RX1 27 "BondDesk$Dates" "AHEAD" "[I", Cond.methodLink RX3 53 yX3_yearOfPeriod, Cond.instanceMethod yX3_yearOfPeriod, Cond.selects RX3 yX3_yearOfPeriod yX3_yearOfPeriod, Cond.code yX3_yearOfPeriod cX3_yearOfPeriod 3 (some .long), Cond.constantLong RX3 80 (3650000), Cond.constantLong RX3 82 (3600000), Cond.constantLong RX3 65 (10000), Cond.methodLink RX4 122 yX0_init, Cond.instanceMethod yX0_init, Cond.code yX0_init cX0_init 3 none, Cond.methodLink RX0 3 objectInit, Cond.fieldLink RX0 9 "BondDesk$Bond" "schedule" "LBondDesk$Schedule;", Cond.fieldLink RX0 15 "BondDesk$Bond" "factor" "I", Cond.fieldLink RX0 25 "BondDesk$Bond" "next" "I", Cond.methodLink RX0 19 yX3_firstBehind, Cond.instanceMethod yX3_firstBehind, Cond.selects RX3 yX3_firstBehind yX3_firstBehind, Cond.code yX3_firstBehind cX3_firstBehind 3 (some .int)]
def wsL_addBond : List Cond := .codeWith yL_addBond cL_addBond 8 (some .int) [(0, 16, 19, 13), (0, 16, 23, 22)] :: ((wsL_addBond_r1 ++ (wsL_addBond_r2 ++ (wsL_addBond_r3 ++ (wsL_addBond_r4 ++ wsL_addBond_r5)))) ++ wsX40 ++ wsX00 ++ wsX30 ++ (vx_atS RX4 48 "java/lang/IllegalArgumentException" ["java/lang/RuntimeException", "java/lang/Exception"]).filter goodWord ++ (vx_atS RX4 77 "java/lang/IllegalStateException" ["java/lang/RuntimeException", "java/lang/Exception"]).filter goodWord)
def wsL_setSink_r1 : List Cond := [Cond.classLink RL 35 "java/lang/IndexOutOfBoundsException", Cond.classLink RL 13 "java/lang/IllegalArgumentException", Cond.classLink RL 22 "java/lang/IllegalStateException", Cond.methodLink RL 31 yX4_setSink, Cond.instanceMethod yX4_setSink, Cond.selects RX4 yX4_setSink yX4_setSink, Cond.initialized RX4, Cond.code yX4_setSink cX4_setSink 5 (some .int), Cond.classLink RX4 44 "java/lang/IllegalArgumentException", Cond.initialized "java/lang/IllegalArgumentException", Cond.fieldLink RX4 135 "BondDesk$Bond" "sinkFrom" "I", Cond.fieldLink RX4 138 "BondDesk$Bond" "sinkPart" "I", Cond.fieldLink RX4 141 "BondDesk$Bond" "schedule" "LBondDesk$Schedule;", Cond.fieldLink RX4 145 "BondDesk$Schedule" "dates" "[I", Cond.methodLink RX4 125 yX4_bondNumbered, Cond.instanceMethod yX4_bondNumbered, Cond.selects RX4 yX4_bondNumbered yX4_bondNumbered, Cond.code yX4_bondNumbered cX4_bondNumbered 3 (some (.object "BondDesk$Bond")), Cond.classLink RX4 166 "java/lang/IndexOutOfBoundsException", Cond.initialized "java/lang/IndexOutOfBoundsException", Cond.fieldLink RX4 15 "BondDesk" "bonds" "[LBondDesk$Bond;", Cond.methodLink RX4 40 yX4_requireDate, Cond.static yX4_requireDate, Cond.code yX4_requireDate cX4_requireDate 1 none]
def wsL_setSink_r2 : List Cond := [Cond.methodLink RX4 84 yX1_isDate, Cond.static yX1_isDate, Cond.initialized RX1, Cond.code yX1_isDate cX1_isDate 3 (some .boolean), Cond.constant RX1 11 (20160101), Cond.constant RX1 12 (20661231), Cond.methodLink RX1 13 yX1_monthOf, Cond.static yX1_monthOf, Cond.code yX1_monthOf cX1_monthOf 1 (some .int), Cond.methodLink RX1 17 yX1_dayOf, Cond.static yX1_dayOf, Cond.code yX1_dayOf cX1_dayOf 1 (some .int), Cond.methodLink RX1 20 yX1_yearOf, Cond.static yX1_yearOf, Cond.code yX1_yearOf cX1_yearOf 1 (some .int), Cond.methodLink RX1 23 yX1_monthLength, Cond.static yX1_monthLength, Cond.code yX1_monthLength cX1_monthLength 2 (some .int), Cond.methodLink RX4 131 yX4_requireThere, Cond.static yX4_requireThere, Cond.code yX4_requireThere cX4_requireThere 1 none, Cond.classLink RX4 73 "java/lang/IllegalStateException", Cond.initialized "java/lang/IllegalStateException", Cond.methodLink RX4 201 yX0_isGone]
def wsL_setSink_r3 : List Cond := [Cond.instanceMethod yX0_isGone, Cond.selects RX0 yX0_isGone yX0_isGone, Cond.initialized RX0, Cond.code yX0_isGone cX0_isGone 1 (some .boolean), Cond.fieldLink RX0 28 "BondDesk$Bond" "state" "I", Cond.methodLink RX4 148 yX0_factorBehind, Cond.instanceMethod yX0_factorBehind, Cond.selects RX0 yX0_factorBehind yX0_factorBehind, Cond.code yX0_factorBehind cX0_factorBehind 4 (some .int), Cond.fieldLink RX0 15 "BondDesk$Bond" "factor" "I", Cond.fieldLink RX0 25 "BondDesk$Bond" "next" "I", Cond.methodLink RX0 88 yX0_sunkOn, Cond.instanceMethod yX0_sunkOn, Cond.selects RX0 yX0_sunkOn yX0_sunkOn, Cond.code yX0_sunkOn cX0_sunkOn 4 (some .int), Cond.fieldLink RX0 9 "BondDesk$Bond" "schedule" "LBondDesk$Schedule;", Cond.fieldLink RX0 66 "BondDesk$Schedule" "dates" "[I", Cond.fieldLink RX0 70 "BondDesk$Bond" "sinkFrom" "I", Cond.fieldLink RX0 73 "BondDesk$Bond" "sinkPart" "I", Cond.methodLink RX0 76 Lib.Math.min.name, Cond.static Lib.Math.min.name, Cond.initialized "java/lang/Math", Cond.code Lib.Math.min.name Lib.Math.min.code 2 (some .int)]
def wsL_setSink : List Cond := .codeWith yL_setSink cL_setSink 6 (some .int) [(0, 12, 15, 35), (0, 12, 19, 13), (0, 12, 23, 22)] :: ((wsL_setSink_r1 ++ (wsL_setSink_r2 ++ wsL_setSink_r3)) ++ wsX00 ++ wsX30 ++ wsX40 ++ (vx_atS RX4 48 "java/lang/IllegalArgumentException" ["java/lang/RuntimeException", "java/lang/Exception"]).filter goodWord ++ (vx_atS RX4 170 "java/lang/IndexOutOfBoundsException" ["java/lang/RuntimeException", "java/lang/Exception"]).filter goodWord ++ (vx_atS RX4 77 "java/lang/IllegalStateException" ["java/lang/RuntimeException", "java/lang/Exception"]).filter goodWord)
def wsL_setCall_r1 : List Cond := [Cond.classLink RL 35 "java/lang/IndexOutOfBoundsException", Cond.classLink RL 13 "java/lang/IllegalArgumentException", Cond.classLink RL 22 "java/lang/IllegalStateException", Cond.methodLink RL 37 yX4_setCall, Cond.instanceMethod yX4_setCall, Cond.selects RX4 yX4_setCall yX4_setCall, Cond.initialized RX4, Cond.code yX4_setCall cX4_setCall 5 (some .int), Cond.classLink RX4 44 "java/lang/IllegalArgumentException", Cond.initialized "java/lang/IllegalArgumentException", Cond.fieldLink RX4 153 "BondDesk$Bond" "callFrom" "I", Cond.fieldLink RX4 156 "BondDesk$Bond" "callPrice" "I", Cond.methodLink RX4 125 yX4_bondNumbered, Cond.instanceMethod yX4_bondNumbered, Cond.selects RX4 yX4_bondNumbered yX4_bondNumbered, Cond.code yX4_bondNumbered cX4_bondNumbered 3 (some (.object "BondDesk$Bond")), Cond.classLink RX4 166 "java/lang/IndexOutOfBoundsException", Cond.initialized "java/lang/IndexOutOfBoundsException", Cond.fieldLink RX4 15 "BondDesk" "bonds" "[LBondDesk$Bond;", Cond.methodLink RX4 40 yX4_requireDate, Cond.static yX4_requireDate, Cond.code yX4_requireDate cX4_requireDate 1 none, Cond.methodLink RX4 84 yX1_isDate, Cond.static yX1_isDate]
def wsL_setCall_r2 : List Cond := [Cond.initialized RX1, Cond.code yX1_isDate cX1_isDate 3 (some .boolean), Cond.constant RX1 11 (20160101), Cond.constant RX1 12 (20661231), Cond.methodLink RX1 13 yX1_monthOf, Cond.static yX1_monthOf, Cond.code yX1_monthOf cX1_monthOf 1 (some .int), Cond.methodLink RX1 17 yX1_dayOf, Cond.static yX1_dayOf, Cond.code yX1_dayOf cX1_dayOf 1 (some .int), Cond.methodLink RX1 20 yX1_yearOf, Cond.static yX1_yearOf, Cond.code yX1_yearOf cX1_yearOf 1 (some .int), Cond.methodLink RX1 23 yX1_monthLength, Cond.static yX1_monthLength, Cond.code yX1_monthLength cX1_monthLength 2 (some .int), Cond.methodLink RX4 131 yX4_requireThere, Cond.static yX4_requireThere, Cond.code yX4_requireThere cX4_requireThere 1 none, Cond.classLink RX4 73 "java/lang/IllegalStateException", Cond.initialized "java/lang/IllegalStateException", Cond.methodLink RX4 201 yX0_isGone, Cond.instanceMethod yX0_isGone, Cond.selects RX0 yX0_isGone yX0_isGone]
def wsL_setCall_r3 : List Cond := [Cond.initialized RX0, Cond.code yX0_isGone cX0_isGone 1 (some .boolean), Cond.fieldLink RX0 28 "BondDesk$Bond" "state" "I", Cond.methodLink RX4 159 yX0_firstCall, Cond.instanceMethod yX0_firstCall, Cond.selects RX0 yX0_firstCall yX0_firstCall, Cond.code yX0_firstCall cX0_firstCall 2 (some .int), Cond.fieldLink RX0 25 "BondDesk$Bond" "next" "I", Cond.fieldLink RX0 9 "BondDesk$Bond" "schedule" "LBondDesk$Schedule;", Cond.fieldLink RX0 66 "BondDesk$Schedule" "dates" "[I", Cond.methodLink RX0 124 yX0_isCallDate, Cond.instanceMethod yX0_isCallDate, Cond.selects RX0 yX0_isCallDate yX0_isCallDate, Cond.code yX0_isCallDate cX0_isCallDate 2 (some .boolean), Cond.fieldLink RX0 118 "BondDesk$Bond" "callPrice" "I", Cond.fieldLink RX0 121 "BondDesk$Bond" "callFrom" "I"]
def wsL_setCall : List Cond := .codeWith yL_setCall cL_setCall 6 (some .int) [(0, 12, 15, 35), (0, 12, 19, 13), (0, 12, 23, 22)] :: ((wsL_setCall_r1 ++ (wsL_setCall_r2 ++ wsL_setCall_r3)) ++ wsX00 ++ wsX40 ++ wsX30 ++ (vx_atS RX4 48 "java/lang/IllegalArgumentException" ["java/lang/RuntimeException", "java/lang/Exception"]).filter goodWord ++ (vx_atS RX4 170 "java/lang/IndexOutOfBoundsException" ["java/lang/RuntimeException", "java/lang/Exception"]).filter goodWord ++ (vx_atS RX4 77 "java/lang/IllegalStateException" ["java/lang/RuntimeException", "java/lang/Exception"]).filter goodWord)
def wsL_setRate : List Cond := .codeWith yL_setRate cL_setRate 4 (some .int) [(0, 9, 12, 13)] :: ([.classLink RL 13 "java/lang/IllegalArgumentException", .methodLink RL 40 yX4_setRate, .instanceMethod yX4_setRate, .selects RX4 yX4_setRate yX4_setRate, .initialized RX4, .code yX4_setRate cX4_setRate 3 (some .int), .fieldLink RX4 37 "BondDesk" "refinancing" "I", .methodLink RX4 163 yX4_requireRate, .static yX4_requireRate, .code yX4_requireRate cX4_requireRate 1 none, .classLink RX4 44 "java/lang/IllegalArgumentException", .initialized "java/lang/IllegalArgumentException"] ++ wsX40 ++ (vx_atS RX4 48 "java/lang/IllegalArgumentException" ["java/lang/RuntimeException", "java/lang/Exception"]).filter goodWord)
def wsL_bond_r1 : List Cond := [Cond.classLink RL 35 "java/lang/IndexOutOfBoundsException", Cond.methodLink RL 43 yX4_bond, Cond.instanceMethod yX4_bond, Cond.selects RX4 yX4_bond yX4_bond, Cond.initialized RX4, Cond.code yX4_bond cX4_bond 4 (some .int), Cond.classLink RX4 166 "java/lang/IndexOutOfBoundsException", Cond.initialized "java/lang/IndexOutOfBoundsException", Cond.methodLink RX4 125 yX4_bondNumbered, Cond.instanceMethod yX4_bondNumbered, Cond.selects RX4 yX4_bondNumbered yX4_bondNumbered, Cond.code yX4_bondNumbered cX4_bondNumbered 3 (some (.object "BondDesk$Bond")), Cond.fieldLink RX4 15 "BondDesk" "bonds" "[LBondDesk$Bond;", Cond.methodLink RX4 171 yX0_tell, Cond.instanceMethod yX0_tell, Cond.selects RX0 yX0_tell yX0_tell, Cond.initialized RX0, Cond.code yX0_tell cX0_tell 2 (some .int), Cond.fieldLink RX0 9 "BondDesk$Bond" "schedule" "LBondDesk$Schedule;", Cond.fieldLink RX0 31 "BondDesk$Schedule" "issue" "I", Cond.fieldLink RX0 42 "BondDesk$Schedule" "end" "I", Cond.fieldLink RX0 163 "BondDesk$Schedule" "rate" "I", Cond.fieldLink RX0 91 "BondDesk$Schedule" "perYear" "I", Cond.fieldLink RX0 166 "BondDesk$Schedule" "way" "I"]
def wsL_bond_r2 : List Cond := [Cond.fieldLink RX0 15 "BondDesk$Bond" "factor" "I", Cond.fieldLink RX0 66 "BondDesk$Schedule" "dates" "[I", Cond.fieldLink RX0 25 "BondDesk$Bond" "next" "I", Cond.fieldLink RX0 28 "BondDesk$Bond" "state" "I", Cond.fieldLink RX0 147 "BondDesk$Bond" "pieces" "I", Cond.methodLink RX0 58 yX0_face, Cond.instanceMethod yX0_face, Cond.selects RX0 yX0_face yX0_face, Cond.code yX0_face cX0_face 1 (some .long), Cond.methodLink RX0 54 yX0_faceOf, Cond.static yX0_faceOf, Cond.code yX0_faceOf cX0_faceOf 1 (some .long), Cond.constantLong RX0 50 (100000), Cond.constantLong RX0 52 (10000), Cond.methodLink RX0 34 yX0_isGone, Cond.instanceMethod yX0_isGone, Cond.selects RX0 yX0_isGone yX0_isGone, Cond.code yX0_isGone cX0_isGone 1 (some .boolean)]
def wsL_bond : List Cond := .codeWith yL_bond cL_bond 5 (some .int) [(0, 10, 13, 35)] :: ((wsL_bond_r1 ++ wsL_bond_r2) ++ wsX40 ++ wsX00 ++ wsX30 ++ (vx_atS RX4 170 "java/lang/IndexOutOfBoundsException" ["java/lang/RuntimeException", "java/lang/Exception"]).filter goodWord)
def wsL_coupon_r1 : List Cond := [Cond.classLink RL 35 "java/lang/IndexOutOfBoundsException", Cond.methodLink RL 46 yX4_coupon, Cond.instanceMethod yX4_coupon, Cond.selects RX4 yX4_coupon yX4_coupon, Cond.initialized RX4, Cond.code yX4_coupon cX4_coupon 5 (some .int), Cond.classLink RX4 166 "java/lang/IndexOutOfBoundsException", Cond.initialized "java/lang/IndexOutOfBoundsException", Cond.fieldLink RX4 141 "BondDesk$Bond" "schedule" "LBondDesk$Schedule;", Cond.fieldLink RX4 145 "BondDesk$Schedule" "dates" "[I", Cond.constantLong RX4 179 (100000), Cond.methodLink RX4 125 yX4_bondNumbered, Cond.instanceMethod yX4_bondNumbered, Cond.selects RX4 yX4_bondNumbered yX4_bondNumbered, Cond.code yX4_bondNumbered cX4_bondNumbered 3 (some (.object "BondDesk$Bond")), Cond.fieldLink RX4 15 "BondDesk" "bonds" "[LBondDesk$Bond;", Cond.methodLink RX4 81 yX4_nextWorkingDate, Cond.instanceMethod yX4_nextWorkingDate, Cond.selects RX4 yX4_nextWorkingDate yX4_nextWorkingDate, Cond.code yX4_nextWorkingDate cX4_nextWorkingDate 4 (some .int), Cond.methodLink RX4 51 yX1_dayNumber, Cond.static yX1_dayNumber, Cond.initialized RX1, Cond.code yX1_dayNumber cX1_dayNumber 5 (some .int)]
def wsL_coupon_r2 : List Cond := [Cond.fieldLink RX1 27 "BondDesk$Dates" "AHEAD" "[I", Cond.methodLink RX4 89 yX4_isWorkingDay, Cond.instanceMethod yX4_isWorkingDay, Cond.selects RX4 yX4_isWorkingDay yX4_isWorkingDay, Cond.code yX4_isWorkingDay cX4_isWorkingDay 2 (some .boolean), Cond.methodLink RX4 63 yX1_dayOfWeek, Cond.static yX1_dayOfWeek, Cond.code yX1_dayOfWeek cX1_dayOfWeek 1 (some .int), Cond.methodLink RX4 60 yX1_dateOf, Cond.static yX1_dateOf, Cond.code yX1_dateOf cX1_dateOf 5 (some .int), Cond.methodLink RX1 23 yX1_monthLength, Cond.static yX1_monthLength, Cond.code yX1_monthLength cX1_monthLength 2 (some .int), Cond.methodLink RX4 66 yX4_isHoliday, Cond.instanceMethod yX4_isHoliday, Cond.selects RX4 yX4_isHoliday yX4_isHoliday, Cond.code yX4_isHoliday cX4_isHoliday 6 (some .boolean), Cond.fieldLink RX4 9 "BondDesk" "holidays" "[I", Cond.methodLink RX4 176 yX3_beginOf, Cond.instanceMethod yX3_beginOf, Cond.selects RX3 yX3_beginOf yX3_beginOf, Cond.initialized RX3, Cond.code yX3_beginOf cX3_beginOf 2 (some .int)]
def wsL_coupon_r3 : List Cond := [Cond.fieldLink RX3 41 "BondDesk$Schedule" "dates" "[I", Cond.fieldLink RX3 7 "BondDesk$Schedule" "issue" "I", Cond.methodLink RX4 181 yX3_couponFor, Cond.instanceMethod yX3_couponFor, Cond.selects RX3 yX3_couponFor yX3_couponFor, Cond.code yX3_couponFor cX3_couponFor 6 (some .long), Cond.fieldLink RX3 29 "BondDesk$Schedule" "regularBegin" "I", Cond.fieldLink RX3 57 "BondDesk$Schedule" "firstYear" "J", Cond.fieldLink RX3 16 "BondDesk$Schedule" "rate" "I", Cond.fieldLink RX3 49 "BondDesk$Schedule" "firstDays" "J", Cond.constantLong RX3 65 (10000), Cond.fieldLink RX3 19 "BondDesk$Schedule" "perYear" "I"]
def wsL_coupon : List Cond := .codeWith yL_coupon cL_coupon 6 (some .int) [(0, 12, 15, 35)] :: ((wsL_coupon_r1 ++ (wsL_coupon_r2 ++ wsL_coupon_r3)) ++ wsX00 ++ wsX30 ++ wsX40 ++ (vx_atS RX4 170 "java/lang/IndexOutOfBoundsException" ["java/lang/RuntimeException", "java/lang/Exception"]).filter goodWord)
def wsL_accrued_r1 : List Cond := [Cond.classLink RL 35 "java/lang/IndexOutOfBoundsException", Cond.classLink RL 13 "java/lang/IllegalArgumentException", Cond.methodLink RL 49 yX4_accrued, Cond.instanceMethod yX4_accrued, Cond.selects RX4 yX4_accrued yX4_accrued, Cond.initialized RX4, Cond.code yX4_accrued cX4_accrued 4 (some .int), Cond.methodLink RX4 125 yX4_bondNumbered, Cond.instanceMethod yX4_bondNumbered, Cond.selects RX4 yX4_bondNumbered yX4_bondNumbered, Cond.code yX4_bondNumbered cX4_bondNumbered 3 (some (.object "BondDesk$Bond")), Cond.classLink RX4 166 "java/lang/IndexOutOfBoundsException", Cond.initialized "java/lang/IndexOutOfBoundsException", Cond.fieldLink RX4 15 "BondDesk" "bonds" "[LBondDesk$Bond;", Cond.methodLink RX4 40 yX4_requireDate, Cond.static yX4_requireDate, Cond.code yX4_requireDate cX4_requireDate 1 none, Cond.classLink RX4 44 "java/lang/IllegalArgumentException", Cond.initialized "java/lang/IllegalArgumentException", Cond.methodLink RX4 84 yX1_isDate, Cond.static yX1_isDate, Cond.initialized RX1, Cond.code yX1_isDate cX1_isDate 3 (some .boolean), Cond.constant RX1 11 (20160101)]
def wsL_accrued_r2 : List Cond := [Cond.constant RX1 12 (20661231), Cond.methodLink RX1 13 yX1_monthOf, Cond.static yX1_monthOf, Cond.code yX1_monthOf cX1_monthOf 1 (some .int), Cond.methodLink RX1 17 yX1_dayOf, Cond.static yX1_dayOf, Cond.code yX1_dayOf cX1_dayOf 1 (some .int), Cond.methodLink RX1 20 yX1_yearOf, Cond.static yX1_yearOf, Cond.code yX1_yearOf cX1_yearOf 1 (some .int), Cond.methodLink RX1 23 yX1_monthLength, Cond.static yX1_monthLength, Cond.code yX1_monthLength cX1_monthLength 2 (some .int), Cond.methodLink RX4 187 yX0_accruedOn, Cond.instanceMethod yX0_accruedOn, Cond.selects RX0 yX0_accruedOn yX0_accruedOn, Cond.initialized RX0, Cond.code yX0_accruedOn cX0_accruedOn 2 (some .long), Cond.fieldLink RX0 9 "BondDesk$Bond" "schedule" "LBondDesk$Schedule;", Cond.methodLink RX0 34 yX0_isGone, Cond.instanceMethod yX0_isGone, Cond.selects RX0 yX0_isGone yX0_isGone, Cond.code yX0_isGone cX0_isGone 1 (some .boolean), Cond.fieldLink RX0 28 "BondDesk$Bond" "state" "I"]
def wsL_accrued_r3 : List Cond := [Cond.methodLink RX0 58 yX0_face, Cond.instanceMethod yX0_face, Cond.selects RX0 yX0_face yX0_face, Cond.code yX0_face cX0_face 1 (some .long), Cond.fieldLink RX0 15 "BondDesk$Bond" "factor" "I", Cond.methodLink RX0 54 yX0_faceOf, Cond.static yX0_faceOf, Cond.code yX0_faceOf cX0_faceOf 1 (some .long), Cond.constantLong RX0 50 (100000), Cond.constantLong RX0 52 (10000), Cond.methodLink RX0 62 yX3_accruedFor, Cond.instanceMethod yX3_accruedFor, Cond.selects RX3 yX3_accruedFor yX3_accruedFor, Cond.initialized RX3, Cond.code yX3_accruedFor cX3_accruedFor 7 (some .long), Cond.fieldLink RX3 7 "BondDesk$Schedule" "issue" "I", Cond.fieldLink RX3 41 "BondDesk$Schedule" "dates" "[I", Cond.fieldLink RX3 16 "BondDesk$Schedule" "rate" "I", Cond.methodLink RX3 67 yX3_firstBehind, Cond.instanceMethod yX3_firstBehind, Cond.selects RX3 yX3_firstBehind yX3_firstBehind, Cond.code yX3_firstBehind cX3_firstBehind 3 (some .int), Cond.methodLink RX3 53 yX3_yearOfPeriod, Cond.instanceMethod yX3_yearOfPeriod]
def wsL_accrued_r4 : List Cond := [Cond.selects RX3 yX3_yearOfPeriod yX3_yearOfPeriod, Cond.code yX3_yearOfPeriod cX3_yearOfPeriod 3 (some .long), Cond.fieldLink RX3 22 "BondDesk$Schedule" "way" "I", Cond.constantLong RX3 80 (3650000), Cond.constantLong RX3 82 (3600000), Cond.fieldLink RX3 29 "BondDesk$Schedule" "regularBegin" "I", Cond.constantLong RX3 65 (10000), Cond.fieldLink RX3 19 "BondDesk$Schedule" "perYear" "I", Cond.methodLink RX3 77 yX1_daysBetween, Cond.static yX1_daysBetween, Cond.code yX1_daysBetween cX1_daysBetween 2 (some .int), Cond.methodLink RX1 31 yX1_dayNumber, Cond.static yX1_dayNumber, Cond.code yX1_dayNumber cX1_dayNumber 5 (some .int), Cond.fieldLink RX1 27 "BondDesk$Dates" "AHEAD" "[I", Cond.methodLink RX3 71 yX3_beginOf, Cond.instanceMethod yX3_beginOf, Cond.selects RX3 yX3_beginOf yX3_beginOf, Cond.code yX3_beginOf cX3_beginOf 2 (some .int), Cond.methodLink RX3 45 yX3_daysCounted, Cond.instanceMethod yX3_daysCounted, Cond.selects RX3 yX3_daysCounted yX3_daysCounted, Cond.code yX3_daysCounted cX3_daysCounted 3 (some .long), Cond.methodLink RX3 74 yX1_daysOf30]
def wsL_accrued_r5 : List Cond := [Cond.static yX1_daysOf30, Cond.code yX1_daysOf30 cX1_daysOf30 4 (some .int), Cond.methodLink RX1 34 Lib.Math.min.name, Cond.static Lib.Math.min.name, Cond.initialized "java/lang/Math", Cond.code Lib.Math.min.name Lib.Math.min.code 2 (some .int)]
def wsL_accrued : List Cond := .codeWith yL_accrued cL_accrued 5 (some .int) [(0, 10, 13, 35), (0, 10, 17, 13)] :: ((wsL_accrued_r1 ++ (wsL_accrued_r2 ++ (wsL_accrued_r3 ++ (wsL_accrued_r4 ++ wsL_accrued_r5)))) ++ wsX40 ++ wsX00 ++ wsX30 ++ (vx_atS RX4 170 "java/lang/IndexOutOfBoundsException" ["java/lang/RuntimeException", "java/lang/Exception"]).filter goodWord ++ (vx_atS RX4 48 "java/lang/IllegalArgumentException" ["java/lang/RuntimeException", "java/lang/Exception"]).filter goodWord)
def wsL_worth_r1 : List Cond := [Cond.classLink RL 35 "java/lang/IndexOutOfBoundsException", Cond.classLink RL 13 "java/lang/IllegalArgumentException", Cond.methodLink RL 52 yX4_worth, Cond.instanceMethod yX4_worth, Cond.selects RX4 yX4_worth yX4_worth, Cond.initialized RX4, Cond.code yX4_worth cX4_worth 4 (some .int), Cond.fieldLink RX4 27 "BondDesk" "today" "I", Cond.fieldLink RX4 212 "BondDesk$Bond" "factor" "I", Cond.methodLink RX4 125 yX4_bondNumbered, Cond.instanceMethod yX4_bondNumbered, Cond.selects RX4 yX4_bondNumbered yX4_bondNumbered, Cond.code yX4_bondNumbered cX4_bondNumbered 3 (some (.object "BondDesk$Bond")), Cond.classLink RX4 166 "java/lang/IndexOutOfBoundsException", Cond.initialized "java/lang/IndexOutOfBoundsException", Cond.fieldLink RX4 15 "BondDesk" "bonds" "[LBondDesk$Bond;", Cond.methodLink RX4 209 yX4_requireYield, Cond.static yX4_requireYield, Cond.code yX4_requireYield cX4_requireYield 1 none, Cond.classLink RX4 44 "java/lang/IllegalArgumentException", Cond.initialized "java/lang/IllegalArgumentException", Cond.methodLink RX4 215 yX0_worthAt, Cond.instanceMethod yX0_worthAt, Cond.selects RX0 yX0_worthAt yX0_worthAt]
def wsL_worth_r2 : List Cond := [Cond.initialized RX0, Cond.code yX0_worthAt cX0_worthAt 14 (some .long), Cond.fieldLink RX0 9 "BondDesk$Bond" "schedule" "LBondDesk$Schedule;", Cond.constantLong RX0 52 (10000), Cond.fieldLink RX0 91 "BondDesk$Schedule" "perYear" "I", Cond.fieldLink RX0 66 "BondDesk$Schedule" "dates" "[I", Cond.constantLong RX0 94 (3650000), Cond.constantLong RX0 99 (3650000000000000), Cond.constantLong RX0 105 (1000000000), Cond.methodLink RX0 19 yX3_firstBehind, Cond.instanceMethod yX3_firstBehind, Cond.selects RX3 yX3_firstBehind yX3_firstBehind, Cond.initialized RX3, Cond.code yX3_firstBehind cX3_firstBehind 3 (some .int), Cond.fieldLink RX3 41 "BondDesk$Schedule" "dates" "[I", Cond.methodLink RX0 34 yX0_isGone, Cond.instanceMethod yX0_isGone, Cond.selects RX0 yX0_isGone yX0_isGone, Cond.code yX0_isGone cX0_isGone 1 (some .boolean), Cond.fieldLink RX0 28 "BondDesk$Bond" "state" "I", Cond.methodLink RX0 96 yX1_daysBetween, Cond.static yX1_daysBetween, Cond.initialized RX1, Cond.code yX1_daysBetween cX1_daysBetween 2 (some .int)]
def wsL_worth_r3 : List Cond := [Cond.methodLink RX1 31 yX1_dayNumber, Cond.static yX1_dayNumber, Cond.code yX1_dayNumber cX1_dayNumber 5 (some .int), Cond.fieldLink RX1 27 "BondDesk$Dates" "AHEAD" "[I", Cond.methodLink RX0 101 yX0_paymentOn, Cond.instanceMethod yX0_paymentOn, Cond.selects RX0 yX0_paymentOn yX0_paymentOn, Cond.code yX0_paymentOn cX0_paymentOn 3 (some .long), Cond.methodLink RX0 54 yX0_faceOf, Cond.static yX0_faceOf, Cond.code yX0_faceOf cX0_faceOf 1 (some .long), Cond.constantLong RX0 50 (100000), Cond.methodLink RX0 82 yX3_couponFor, Cond.instanceMethod yX3_couponFor, Cond.selects RX3 yX3_couponFor yX3_couponFor, Cond.code yX3_couponFor cX3_couponFor 6 (some .long), Cond.fieldLink RX3 29 "BondDesk$Schedule" "regularBegin" "I", Cond.fieldLink RX3 7 "BondDesk$Schedule" "issue" "I", Cond.fieldLink RX3 57 "BondDesk$Schedule" "firstYear" "J", Cond.fieldLink RX3 16 "BondDesk$Schedule" "rate" "I", Cond.fieldLink RX3 49 "BondDesk$Schedule" "firstDays" "J", Cond.constantLong RX3 65 (10000), Cond.fieldLink RX3 19 "BondDesk$Schedule" "perYear" "I", Cond.methodLink RX0 85 yX0_isEnd]
def wsL_worth_r4 : List Cond := [Cond.instanceMethod yX0_isEnd, Cond.selects RX0 yX0_isEnd yX0_isEnd, Cond.code yX0_isEnd cX0_isEnd 2 (some .boolean), Cond.methodLink RX0 88 yX0_sunkOn, Cond.instanceMethod yX0_sunkOn, Cond.selects RX0 yX0_sunkOn yX0_sunkOn, Cond.code yX0_sunkOn cX0_sunkOn 4 (some .int), Cond.fieldLink RX0 70 "BondDesk$Bond" "sinkFrom" "I", Cond.fieldLink RX0 73 "BondDesk$Bond" "sinkPart" "I", Cond.methodLink RX0 76 Lib.Math.min.name, Cond.static Lib.Math.min.name, Cond.initialized "java/lang/Math", Cond.code Lib.Math.min.name Lib.Math.min.code 2 (some .int)]
def wsL_worth : List Cond := .codeWith yL_worth cL_worth 5 (some .int) [(0, 10, 13, 35), (0, 10, 17, 13)] :: ((wsL_worth_r1 ++ (wsL_worth_r2 ++ (wsL_worth_r3 ++ wsL_worth_r4))) ++ wsX40 ++ wsX00 ++ wsX30 ++ (vx_atS RX4 170 "java/lang/IndexOutOfBoundsException" ["java/lang/RuntimeException", "java/lang/Exception"]).filter goodWord ++ (vx_atS RX4 48 "java/lang/IllegalArgumentException" ["java/lang/RuntimeException", "java/lang/Exception"]).filter goodWord)
def wsL_yields_r1 : List Cond := [Cond.classLink RL 35 "java/lang/IndexOutOfBoundsException", Cond.classLink RL 13 "java/lang/IllegalArgumentException", Cond.methodLink RL 55 yX4_yields, Cond.instanceMethod yX4_yields, Cond.selects RX4 yX4_yields yX4_yields, Cond.initialized RX4, Cond.code yX4_yields cX4_yields 4 (some .int), Cond.fieldLink RX4 27 "BondDesk" "today" "I", Cond.methodLink RX4 125 yX4_bondNumbered, Cond.instanceMethod yX4_bondNumbered, Cond.selects RX4 yX4_bondNumbered yX4_bondNumbered, Cond.code yX4_bondNumbered cX4_bondNumbered 3 (some (.object "BondDesk$Bond")), Cond.classLink RX4 166 "java/lang/IndexOutOfBoundsException", Cond.initialized "java/lang/IndexOutOfBoundsException", Cond.fieldLink RX4 15 "BondDesk" "bonds" "[LBondDesk$Bond;", Cond.methodLink RX4 219 yX4_requirePrice, Cond.static yX4_requirePrice, Cond.code yX4_requirePrice cX4_requirePrice 1 none, Cond.classLink RX4 44 "java/lang/IllegalArgumentException", Cond.initialized "java/lang/IllegalArgumentException", Cond.methodLink RX4 222 yX0_yieldAt, Cond.instanceMethod yX0_yieldAt, Cond.selects RX0 yX0_yieldAt yX0_yieldAt, Cond.initialized RX0]
def wsL_yields_r2 : List Cond := [Cond.code yX0_yieldAt cX0_yieldAt 3 (some .int), Cond.fieldLink RX0 15 "BondDesk$Bond" "factor" "I", Cond.methodLink RX0 34 yX0_isGone, Cond.instanceMethod yX0_isGone, Cond.selects RX0 yX0_isGone yX0_isGone, Cond.code yX0_isGone cX0_isGone 1 (some .boolean), Cond.fieldLink RX0 28 "BondDesk$Bond" "state" "I", Cond.methodLink RX0 111 yX0_fullPrice, Cond.instanceMethod yX0_fullPrice, Cond.selects RX0 yX0_fullPrice yX0_fullPrice, Cond.code yX0_fullPrice cX0_fullPrice 3 (some .long), Cond.constantLong RX0 52 (10000), Cond.fieldLink RX0 9 "BondDesk$Bond" "schedule" "LBondDesk$Schedule;", Cond.methodLink RX0 58 yX0_face, Cond.instanceMethod yX0_face, Cond.selects RX0 yX0_face yX0_face, Cond.code yX0_face cX0_face 1 (some .long), Cond.methodLink RX0 54 yX0_faceOf, Cond.static yX0_faceOf, Cond.code yX0_faceOf cX0_faceOf 1 (some .long), Cond.constantLong RX0 50 (100000), Cond.methodLink RX0 62 yX3_accruedFor, Cond.instanceMethod yX3_accruedFor, Cond.selects RX3 yX3_accruedFor yX3_accruedFor]
def wsL_yields_r3 : List Cond := [Cond.initialized RX3, Cond.code yX3_accruedFor cX3_accruedFor 7 (some .long), Cond.fieldLink RX3 7 "BondDesk$Schedule" "issue" "I", Cond.fieldLink RX3 41 "BondDesk$Schedule" "dates" "[I", Cond.fieldLink RX3 16 "BondDesk$Schedule" "rate" "I", Cond.methodLink RX3 67 yX3_firstBehind, Cond.instanceMethod yX3_firstBehind, Cond.selects RX3 yX3_firstBehind yX3_firstBehind, Cond.code yX3_firstBehind cX3_firstBehind 3 (some .int), Cond.methodLink RX3 53 yX3_yearOfPeriod, Cond.instanceMethod yX3_yearOfPeriod, Cond.selects RX3 yX3_yearOfPeriod yX3_yearOfPeriod, Cond.code yX3_yearOfPeriod cX3_yearOfPeriod 3 (some .long), Cond.fieldLink RX3 22 "BondDesk$Schedule" "way" "I", Cond.constantLong RX3 80 (3650000), Cond.constantLong RX3 82 (3600000), Cond.fieldLink RX3 29 "BondDesk$Schedule" "regularBegin" "I", Cond.constantLong RX3 65 (10000), Cond.fieldLink RX3 19 "BondDesk$Schedule" "perYear" "I", Cond.methodLink RX3 77 yX1_daysBetween, Cond.static yX1_daysBetween, Cond.initialized RX1, Cond.code yX1_daysBetween cX1_daysBetween 2 (some .int), Cond.methodLink RX1 31 yX1_dayNumber]
def wsL_yields_r4 : List Cond := [Cond.static yX1_dayNumber, Cond.code yX1_dayNumber cX1_dayNumber 5 (some .int), Cond.fieldLink RX1 27 "BondDesk$Dates" "AHEAD" "[I", Cond.methodLink RX3 71 yX3_beginOf, Cond.instanceMethod yX3_beginOf, Cond.selects RX3 yX3_beginOf yX3_beginOf, Cond.code yX3_beginOf cX3_beginOf 2 (some .int), Cond.methodLink RX3 45 yX3_daysCounted, Cond.instanceMethod yX3_daysCounted, Cond.selects RX3 yX3_daysCounted yX3_daysCounted, Cond.code yX3_daysCounted cX3_daysCounted 3 (some .long), Cond.methodLink RX3 74 yX1_daysOf30, Cond.static yX1_daysOf30, Cond.code yX1_daysOf30 cX1_daysOf30 4 (some .int), Cond.methodLink RX1 34 Lib.Math.min.name, Cond.static Lib.Math.min.name, Cond.initialized "java/lang/Math", Cond.code Lib.Math.min.name Lib.Math.min.code 2 (some .int), Cond.methodLink RX1 17 yX1_dayOf, Cond.static yX1_dayOf, Cond.code yX1_dayOf cX1_dayOf 1 (some .int), Cond.methodLink RX1 20 yX1_yearOf, Cond.static yX1_yearOf, Cond.code yX1_yearOf cX1_yearOf 1 (some .int)]
def wsL_yields_r5 : List Cond := [Cond.methodLink RX1 13 yX1_monthOf, Cond.static yX1_monthOf, Cond.code yX1_monthOf cX1_monthOf 1 (some .int), Cond.methodLink RX0 114 yX0_greatestRate, Cond.instanceMethod yX0_greatestRate, Cond.selects RX0 yX0_greatestRate yX0_greatestRate, Cond.code yX0_greatestRate cX0_greatestRate 8 (some .int), Cond.methodLink RX0 107 yX0_worthAt, Cond.instanceMethod yX0_worthAt, Cond.selects RX0 yX0_worthAt yX0_worthAt, Cond.code yX0_worthAt cX0_worthAt 14 (some .long), Cond.fieldLink RX0 91 "BondDesk$Schedule" "perYear" "I", Cond.fieldLink RX0 66 "BondDesk$Schedule" "dates" "[I", Cond.constantLong RX0 94 (3650000), Cond.constantLong RX0 99 (3650000000000000), Cond.constantLong RX0 105 (1000000000), Cond.methodLink RX0 19 yX3_firstBehind, Cond.methodLink RX0 96 yX1_daysBetween, Cond.methodLink RX0 101 yX0_paymentOn, Cond.instanceMethod yX0_paymentOn, Cond.selects RX0 yX0_paymentOn yX0_paymentOn, Cond.code yX0_paymentOn cX0_paymentOn 3 (some .long), Cond.methodLink RX0 82 yX3_couponFor, Cond.instanceMethod yX3_couponFor]
def wsL_yields_r6 : List Cond := [Cond.selects RX3 yX3_couponFor yX3_couponFor, Cond.code yX3_couponFor cX3_couponFor 6 (some .long), Cond.fieldLink RX3 57 "BondDesk$Schedule" "firstYear" "J", Cond.fieldLink RX3 49 "BondDesk$Schedule" "firstDays" "J", Cond.methodLink RX0 85 yX0_isEnd, Cond.instanceMethod yX0_isEnd, Cond.selects RX0 yX0_isEnd yX0_isEnd, Cond.code yX0_isEnd cX0_isEnd 2 (some .boolean), Cond.methodLink RX0 88 yX0_sunkOn, Cond.instanceMethod yX0_sunkOn, Cond.selects RX0 yX0_sunkOn yX0_sunkOn, Cond.code yX0_sunkOn cX0_sunkOn 4 (some .int), Cond.fieldLink RX0 70 "BondDesk$Bond" "sinkFrom" "I", Cond.fieldLink RX0 73 "BondDesk$Bond" "sinkPart" "I", Cond.methodLink RX0 76 Lib.Math.min.name]
def wsL_yields : List Cond := .codeWith yL_yields cL_yields 5 (some .int) [(0, 10, 13, 35), (0, 10, 17, 13)] :: ((wsL_yields_r1 ++ (wsL_yields_r2 ++ (wsL_yields_r3 ++ (wsL_yields_r4 ++ (wsL_yields_r5 ++ wsL_yields_r6))))) ++ wsX40 ++ wsX00 ++ wsX30 ++ (vx_atS RX4 170 "java/lang/IndexOutOfBoundsException" ["java/lang/RuntimeException", "java/lang/Exception"]).filter goodWord ++ (vx_atS RX4 48 "java/lang/IllegalArgumentException" ["java/lang/RuntimeException", "java/lang/Exception"]).filter goodWord)
def wsL_moves_r1 : List Cond := [Cond.classLink RL 35 "java/lang/IndexOutOfBoundsException", Cond.classLink RL 13 "java/lang/IllegalArgumentException", Cond.methodLink RL 58 yX4_moves, Cond.instanceMethod yX4_moves, Cond.selects RX4 yX4_moves yX4_moves, Cond.initialized RX4, Cond.code yX4_moves cX4_moves 4 (some .int), Cond.fieldLink RX4 27 "BondDesk" "today" "I", Cond.fieldLink RX4 212 "BondDesk$Bond" "factor" "I", Cond.methodLink RX4 125 yX4_bondNumbered, Cond.instanceMethod yX4_bondNumbered, Cond.selects RX4 yX4_bondNumbered yX4_bondNumbered, Cond.code yX4_bondNumbered cX4_bondNumbered 3 (some (.object "BondDesk$Bond")), Cond.classLink RX4 166 "java/lang/IndexOutOfBoundsException", Cond.initialized "java/lang/IndexOutOfBoundsException", Cond.fieldLink RX4 15 "BondDesk" "bonds" "[LBondDesk$Bond;", Cond.methodLink RX4 209 yX4_requireYield, Cond.static yX4_requireYield, Cond.code yX4_requireYield cX4_requireYield 1 none, Cond.classLink RX4 44 "java/lang/IllegalArgumentException", Cond.initialized "java/lang/IllegalArgumentException", Cond.methodLink RX4 215 yX0_worthAt, Cond.instanceMethod yX0_worthAt, Cond.selects RX0 yX0_worthAt yX0_worthAt]
def wsL_moves_r2 : List Cond := [Cond.initialized RX0, Cond.code yX0_worthAt cX0_worthAt 14 (some .long), Cond.fieldLink RX0 9 "BondDesk$Bond" "schedule" "LBondDesk$Schedule;", Cond.constantLong RX0 52 (10000), Cond.fieldLink RX0 91 "BondDesk$Schedule" "perYear" "I", Cond.fieldLink RX0 66 "BondDesk$Schedule" "dates" "[I", Cond.constantLong RX0 94 (3650000), Cond.constantLong RX0 99 (3650000000000000), Cond.constantLong RX0 105 (1000000000), Cond.methodLink RX0 19 yX3_firstBehind, Cond.instanceMethod yX3_firstBehind, Cond.selects RX3 yX3_firstBehind yX3_firstBehind, Cond.initialized RX3, Cond.code yX3_firstBehind cX3_firstBehind 3 (some .int), Cond.fieldLink RX3 41 "BondDesk$Schedule" "dates" "[I", Cond.methodLink RX0 34 yX0_isGone, Cond.instanceMethod yX0_isGone, Cond.selects RX0 yX0_isGone yX0_isGone, Cond.code yX0_isGone cX0_isGone 1 (some .boolean), Cond.fieldLink RX0 28 "BondDesk$Bond" "state" "I", Cond.methodLink RX0 96 yX1_daysBetween, Cond.static yX1_daysBetween, Cond.initialized RX1, Cond.code yX1_daysBetween cX1_daysBetween 2 (some .int)]
def wsL_moves_r3 : List Cond := [Cond.methodLink RX1 31 yX1_dayNumber, Cond.static yX1_dayNumber, Cond.code yX1_dayNumber cX1_dayNumber 5 (some .int), Cond.fieldLink RX1 27 "BondDesk$Dates" "AHEAD" "[I", Cond.methodLink RX0 101 yX0_paymentOn, Cond.instanceMethod yX0_paymentOn, Cond.selects RX0 yX0_paymentOn yX0_paymentOn, Cond.code yX0_paymentOn cX0_paymentOn 3 (some .long), Cond.methodLink RX0 54 yX0_faceOf, Cond.static yX0_faceOf, Cond.code yX0_faceOf cX0_faceOf 1 (some .long), Cond.constantLong RX0 50 (100000), Cond.methodLink RX0 82 yX3_couponFor, Cond.instanceMethod yX3_couponFor, Cond.selects RX3 yX3_couponFor yX3_couponFor, Cond.code yX3_couponFor cX3_couponFor 6 (some .long), Cond.fieldLink RX3 29 "BondDesk$Schedule" "regularBegin" "I", Cond.fieldLink RX3 7 "BondDesk$Schedule" "issue" "I", Cond.fieldLink RX3 57 "BondDesk$Schedule" "firstYear" "J", Cond.fieldLink RX3 16 "BondDesk$Schedule" "rate" "I", Cond.fieldLink RX3 49 "BondDesk$Schedule" "firstDays" "J", Cond.constantLong RX3 65 (10000), Cond.fieldLink RX3 19 "BondDesk$Schedule" "perYear" "I", Cond.methodLink RX0 85 yX0_isEnd]
def wsL_moves_r4 : List Cond := [Cond.instanceMethod yX0_isEnd, Cond.selects RX0 yX0_isEnd yX0_isEnd, Cond.code yX0_isEnd cX0_isEnd 2 (some .boolean), Cond.methodLink RX0 88 yX0_sunkOn, Cond.instanceMethod yX0_sunkOn, Cond.selects RX0 yX0_sunkOn yX0_sunkOn, Cond.code yX0_sunkOn cX0_sunkOn 4 (some .int), Cond.fieldLink RX0 70 "BondDesk$Bond" "sinkFrom" "I", Cond.fieldLink RX0 73 "BondDesk$Bond" "sinkPart" "I", Cond.methodLink RX0 76 Lib.Math.min.name, Cond.static Lib.Math.min.name, Cond.initialized "java/lang/Math", Cond.code Lib.Math.min.name Lib.Math.min.code 2 (some .int)]
def wsL_moves : List Cond := .codeWith yL_moves cL_moves 5 (some .int) [(0, 10, 13, 35), (0, 10, 17, 13)] :: ((wsL_moves_r1 ++ (wsL_moves_r2 ++ (wsL_moves_r3 ++ wsL_moves_r4))) ++ wsX40 ++ wsX00 ++ wsX30 ++ (vx_atS RX4 170 "java/lang/IndexOutOfBoundsException" ["java/lang/RuntimeException", "java/lang/Exception"]).filter goodWord ++ (vx_atS RX4 48 "java/lang/IllegalArgumentException" ["java/lang/RuntimeException", "java/lang/Exception"]).filter goodWord)
def wsL_callsAt_r1 : List Cond := [Cond.classLink RL 35 "java/lang/IndexOutOfBoundsException", Cond.methodLink RL 61 yX4_callsAt, Cond.instanceMethod yX4_callsAt, Cond.selects RX4 yX4_callsAt yX4_callsAt, Cond.initialized RX4, Cond.code yX4_callsAt cX4_callsAt 2 (some .int), Cond.methodLink RX4 125 yX4_bondNumbered, Cond.instanceMethod yX4_bondNumbered, Cond.selects RX4 yX4_bondNumbered yX4_bondNumbered, Cond.code yX4_bondNumbered cX4_bondNumbered 3 (some (.object "BondDesk$Bond")), Cond.classLink RX4 166 "java/lang/IndexOutOfBoundsException", Cond.initialized "java/lang/IndexOutOfBoundsException", Cond.fieldLink RX4 15 "BondDesk" "bonds" "[LBondDesk$Bond;", Cond.methodLink RX4 226 yX0_rateOfCall, Cond.instanceMethod yX0_rateOfCall, Cond.selects RX0 yX0_rateOfCall yX0_rateOfCall, Cond.initialized RX0, Cond.code yX0_rateOfCall cX0_rateOfCall 3 (some .int), Cond.fieldLink RX0 9 "BondDesk$Bond" "schedule" "LBondDesk$Schedule;", Cond.fieldLink RX0 66 "BondDesk$Schedule" "dates" "[I", Cond.methodLink RX0 34 yX0_isGone, Cond.instanceMethod yX0_isGone, Cond.selects RX0 yX0_isGone yX0_isGone, Cond.code yX0_isGone cX0_isGone 1 (some .boolean)]
def wsL_callsAt_r2 : List Cond := [Cond.fieldLink RX0 28 "BondDesk$Bond" "state" "I", Cond.methodLink RX0 127 yX0_firstCall, Cond.instanceMethod yX0_firstCall, Cond.selects RX0 yX0_firstCall yX0_firstCall, Cond.code yX0_firstCall cX0_firstCall 2 (some .int), Cond.fieldLink RX0 25 "BondDesk$Bond" "next" "I", Cond.methodLink RX0 124 yX0_isCallDate, Cond.instanceMethod yX0_isCallDate, Cond.selects RX0 yX0_isCallDate yX0_isCallDate, Cond.code yX0_isCallDate cX0_isCallDate 2 (some .boolean), Cond.fieldLink RX0 118 "BondDesk$Bond" "callPrice" "I", Cond.fieldLink RX0 121 "BondDesk$Bond" "callFrom" "I", Cond.methodLink RX0 131 yX0_factorBehind, Cond.instanceMethod yX0_factorBehind, Cond.selects RX0 yX0_factorBehind yX0_factorBehind, Cond.code yX0_factorBehind cX0_factorBehind 4 (some .int), Cond.fieldLink RX0 15 "BondDesk$Bond" "factor" "I", Cond.methodLink RX0 88 yX0_sunkOn, Cond.instanceMethod yX0_sunkOn, Cond.selects RX0 yX0_sunkOn yX0_sunkOn, Cond.code yX0_sunkOn cX0_sunkOn 4 (some .int), Cond.fieldLink RX0 70 "BondDesk$Bond" "sinkFrom" "I", Cond.fieldLink RX0 73 "BondDesk$Bond" "sinkPart" "I", Cond.methodLink RX0 76 Lib.Math.min.name]
def wsL_callsAt_r3 : List Cond := [Cond.static Lib.Math.min.name, Cond.initialized "java/lang/Math", Cond.code Lib.Math.min.name Lib.Math.min.code 2 (some .int), Cond.methodLink RX0 134 yX0_callPayment, Cond.instanceMethod yX0_callPayment, Cond.selects RX0 yX0_callPayment yX0_callPayment, Cond.code yX0_callPayment cX0_callPayment 2 (some .long), Cond.constantLong RX0 52 (10000), Cond.methodLink RX0 54 yX0_faceOf, Cond.static yX0_faceOf, Cond.code yX0_faceOf cX0_faceOf 1 (some .long), Cond.constantLong RX0 50 (100000), Cond.methodLink RX0 114 yX0_greatestRate, Cond.instanceMethod yX0_greatestRate, Cond.selects RX0 yX0_greatestRate yX0_greatestRate, Cond.code yX0_greatestRate cX0_greatestRate 8 (some .int), Cond.methodLink RX0 107 yX0_worthAt, Cond.instanceMethod yX0_worthAt, Cond.selects RX0 yX0_worthAt yX0_worthAt, Cond.code yX0_worthAt cX0_worthAt 14 (some .long), Cond.fieldLink RX0 91 "BondDesk$Schedule" "perYear" "I", Cond.constantLong RX0 94 (3650000), Cond.constantLong RX0 99 (3650000000000000), Cond.constantLong RX0 105 (1000000000)]
def wsL_callsAt_r4 : List Cond := [Cond.methodLink RX0 19 yX3_firstBehind, Cond.instanceMethod yX3_firstBehind, Cond.selects RX3 yX3_firstBehind yX3_firstBehind, Cond.initialized RX3, Cond.code yX3_firstBehind cX3_firstBehind 3 (some .int), Cond.fieldLink RX3 41 "BondDesk$Schedule" "dates" "[I", Cond.methodLink RX0 96 yX1_daysBetween, Cond.static yX1_daysBetween, Cond.initialized RX1, Cond.code yX1_daysBetween cX1_daysBetween 2 (some .int), Cond.methodLink RX1 31 yX1_dayNumber, Cond.static yX1_dayNumber, Cond.code yX1_dayNumber cX1_dayNumber 5 (some .int), Cond.fieldLink RX1 27 "BondDesk$Dates" "AHEAD" "[I", Cond.methodLink RX0 101 yX0_paymentOn, Cond.instanceMethod yX0_paymentOn, Cond.selects RX0 yX0_paymentOn yX0_paymentOn, Cond.code yX0_paymentOn cX0_paymentOn 3 (some .long), Cond.methodLink RX0 82 yX3_couponFor, Cond.instanceMethod yX3_couponFor, Cond.selects RX3 yX3_couponFor yX3_couponFor, Cond.code yX3_couponFor cX3_couponFor 6 (some .long), Cond.fieldLink RX3 29 "BondDesk$Schedule" "regularBegin" "I", Cond.fieldLink RX3 7 "BondDesk$Schedule" "issue" "I"]
def wsL_callsAt_r5 : List Cond := [Cond.fieldLink RX3 57 "BondDesk$Schedule" "firstYear" "J", Cond.fieldLink RX3 16 "BondDesk$Schedule" "rate" "I", Cond.fieldLink RX3 49 "BondDesk$Schedule" "firstDays" "J", Cond.constantLong RX3 65 (10000), Cond.fieldLink RX3 19 "BondDesk$Schedule" "perYear" "I", Cond.methodLink RX0 85 yX0_isEnd, Cond.instanceMethod yX0_isEnd, Cond.selects RX0 yX0_isEnd yX0_isEnd, Cond.code yX0_isEnd cX0_isEnd 2 (some .boolean)]
def wsL_callsAt : List Cond := .codeWith yL_callsAt cL_callsAt 4 (some .int) [(0, 9, 12, 35)] :: ((wsL_callsAt_r1 ++ (wsL_callsAt_r2 ++ (wsL_callsAt_r3 ++ (wsL_callsAt_r4 ++ wsL_callsAt_r5)))) ++ wsX40 ++ wsX00 ++ wsX30 ++ (vx_atS RX4 170 "java/lang/IndexOutOfBoundsException" ["java/lang/RuntimeException", "java/lang/Exception"]).filter goodWord)
def wsL_buy_r1 : List Cond := [Cond.classLink RL 35 "java/lang/IndexOutOfBoundsException", Cond.classLink RL 13 "java/lang/IllegalArgumentException", Cond.classLink RL 22 "java/lang/IllegalStateException", Cond.methodLink RL 64 yX4_buy, Cond.instanceMethod yX4_buy, Cond.selects RX4 yX4_buy yX4_buy, Cond.initialized RX4, Cond.code yX4_buy cX4_buy 7 (some .long), Cond.classLink RX4 73 "java/lang/IllegalStateException", Cond.initialized "java/lang/IllegalStateException", Cond.fieldLink RX4 27 "BondDesk" "today" "I", Cond.fieldLink RX4 244 "BondDesk$Bond" "pieces" "I", Cond.fieldLink RX4 33 "BondDesk" "cash" "J", Cond.methodLink RX4 125 yX4_bondNumbered, Cond.instanceMethod yX4_bondNumbered, Cond.selects RX4 yX4_bondNumbered yX4_bondNumbered, Cond.code yX4_bondNumbered cX4_bondNumbered 3 (some (.object "BondDesk$Bond")), Cond.classLink RX4 166 "java/lang/IndexOutOfBoundsException", Cond.initialized "java/lang/IndexOutOfBoundsException", Cond.fieldLink RX4 15 "BondDesk" "bonds" "[LBondDesk$Bond;", Cond.methodLink RX4 233 yX4_requirePieces, Cond.static yX4_requirePieces, Cond.code yX4_requirePieces cX4_requirePieces 1 none, Cond.classLink RX4 44 "java/lang/IllegalArgumentException"]
def wsL_buy_r2 : List Cond := [Cond.initialized "java/lang/IllegalArgumentException", Cond.methodLink RX4 219 yX4_requirePrice, Cond.static yX4_requirePrice, Cond.code yX4_requirePrice cX4_requirePrice 1 none, Cond.methodLink RX4 236 yX4_requireWorkingDay, Cond.instanceMethod yX4_requireWorkingDay, Cond.selects RX4 yX4_requireWorkingDay yX4_requireWorkingDay, Cond.code yX4_requireWorkingDay cX4_requireWorkingDay 1 none, Cond.methodLink RX4 51 yX1_dayNumber, Cond.static yX1_dayNumber, Cond.initialized RX1, Cond.code yX1_dayNumber cX1_dayNumber 5 (some .int), Cond.fieldLink RX1 27 "BondDesk$Dates" "AHEAD" "[I", Cond.methodLink RX4 89 yX4_isWorkingDay, Cond.instanceMethod yX4_isWorkingDay, Cond.selects RX4 yX4_isWorkingDay yX4_isWorkingDay, Cond.code yX4_isWorkingDay cX4_isWorkingDay 2 (some .boolean), Cond.methodLink RX4 63 yX1_dayOfWeek, Cond.static yX1_dayOfWeek, Cond.code yX1_dayOfWeek cX1_dayOfWeek 1 (some .int), Cond.methodLink RX4 60 yX1_dateOf, Cond.static yX1_dateOf, Cond.code yX1_dateOf cX1_dateOf 5 (some .int), Cond.methodLink RX1 23 yX1_monthLength]
def wsL_buy_r3 : List Cond := [Cond.static yX1_monthLength, Cond.code yX1_monthLength cX1_monthLength 2 (some .int), Cond.methodLink RX4 66 yX4_isHoliday, Cond.instanceMethod yX4_isHoliday, Cond.selects RX4 yX4_isHoliday yX4_isHoliday, Cond.code yX4_isHoliday cX4_isHoliday 6 (some .boolean), Cond.fieldLink RX4 9 "BondDesk" "holidays" "[I", Cond.methodLink RX4 131 yX4_requireThere, Cond.static yX4_requireThere, Cond.code yX4_requireThere cX4_requireThere 1 none, Cond.methodLink RX4 201 yX0_isGone, Cond.instanceMethod yX0_isGone, Cond.selects RX0 yX0_isGone yX0_isGone, Cond.initialized RX0, Cond.code yX0_isGone cX0_isGone 1 (some .boolean), Cond.fieldLink RX0 28 "BondDesk$Bond" "state" "I", Cond.methodLink RX4 239 yX0_isIssued, Cond.instanceMethod yX0_isIssued, Cond.selects RX0 yX0_isIssued yX0_isIssued, Cond.code yX0_isIssued cX0_isIssued 2 (some .boolean), Cond.fieldLink RX0 9 "BondDesk$Bond" "schedule" "LBondDesk$Schedule;", Cond.fieldLink RX0 31 "BondDesk$Schedule" "issue" "I", Cond.methodLink RX4 249 yX0_fullPrice, Cond.instanceMethod yX0_fullPrice]
def wsL_buy_r4 : List Cond := [Cond.selects RX0 yX0_fullPrice yX0_fullPrice, Cond.code yX0_fullPrice cX0_fullPrice 3 (some .long), Cond.constantLong RX0 52 (10000), Cond.methodLink RX0 58 yX0_face, Cond.instanceMethod yX0_face, Cond.selects RX0 yX0_face yX0_face, Cond.code yX0_face cX0_face 1 (some .long), Cond.fieldLink RX0 15 "BondDesk$Bond" "factor" "I", Cond.methodLink RX0 54 yX0_faceOf, Cond.static yX0_faceOf, Cond.code yX0_faceOf cX0_faceOf 1 (some .long), Cond.constantLong RX0 50 (100000), Cond.methodLink RX0 62 yX3_accruedFor, Cond.instanceMethod yX3_accruedFor, Cond.selects RX3 yX3_accruedFor yX3_accruedFor, Cond.initialized RX3, Cond.code yX3_accruedFor cX3_accruedFor 7 (some .long), Cond.fieldLink RX3 7 "BondDesk$Schedule" "issue" "I", Cond.fieldLink RX3 41 "BondDesk$Schedule" "dates" "[I", Cond.fieldLink RX3 16 "BondDesk$Schedule" "rate" "I", Cond.methodLink RX3 67 yX3_firstBehind, Cond.instanceMethod yX3_firstBehind, Cond.selects RX3 yX3_firstBehind yX3_firstBehind, Cond.code yX3_firstBehind cX3_firstBehind 3 (some .int)]
def wsL_buy_r5 : List Cond := [Cond.methodLink RX3 53 yX3_yearOfPeriod, Cond.instanceMethod yX3_yearOfPeriod, Cond.selects RX3 yX3_yearOfPeriod yX3_yearOfPeriod, Cond.code yX3_yearOfPeriod cX3_yearOfPeriod 3 (some .long), Cond.fieldLink RX3 22 "BondDesk$Schedule" "way" "I", Cond.constantLong RX3 80 (3650000), Cond.constantLong RX3 82 (3600000), Cond.fieldLink RX3 29 "BondDesk$Schedule" "regularBegin" "I", Cond.constantLong RX3 65 (10000), Cond.fieldLink RX3 19 "BondDesk$Schedule" "perYear" "I", Cond.methodLink RX3 77 yX1_daysBetween, Cond.static yX1_daysBetween, Cond.code yX1_daysBetween cX1_daysBetween 2 (some .int), Cond.methodLink RX1 31 yX1_dayNumber, Cond.methodLink RX3 71 yX3_beginOf, Cond.instanceMethod yX3_beginOf, Cond.selects RX3 yX3_beginOf yX3_beginOf, Cond.code yX3_beginOf cX3_beginOf 2 (some .int), Cond.methodLink RX3 45 yX3_daysCounted, Cond.instanceMethod yX3_daysCounted, Cond.selects RX3 yX3_daysCounted yX3_daysCounted, Cond.code yX3_daysCounted cX3_daysCounted 3 (some .long), Cond.methodLink RX3 74 yX1_daysOf30, Cond.static yX1_daysOf30]
def wsL_buy_r6 : List Cond := [Cond.code yX1_daysOf30 cX1_daysOf30 4 (some .int), Cond.methodLink RX1 34 Lib.Math.min.name, Cond.static Lib.Math.min.name, Cond.initialized "java/lang/Math", Cond.code Lib.Math.min.name Lib.Math.min.code 2 (some .int), Cond.methodLink RX1 17 yX1_dayOf, Cond.static yX1_dayOf, Cond.code yX1_dayOf cX1_dayOf 1 (some .int), Cond.methodLink RX1 20 yX1_yearOf, Cond.static yX1_yearOf, Cond.code yX1_yearOf cX1_yearOf 1 (some .int), Cond.methodLink RX1 13 yX1_monthOf, Cond.static yX1_monthOf, Cond.code yX1_monthOf cX1_monthOf 1 (some .int)]
def wsL_buy : List Cond := .codeWith yL_buy cL_buy 6 (some .int) [(0, 11, 14, 35), (0, 11, 18, 13), (0, 11, 22, 22)] :: ((wsL_buy_r1 ++ (wsL_buy_r2 ++ (wsL_buy_r3 ++ (wsL_buy_r4 ++ (wsL_buy_r5 ++ wsL_buy_r6))))) ++ wsX40 ++ wsX00 ++ wsX30 ++ (vx_atS RX4 77 "java/lang/IllegalStateException" ["java/lang/RuntimeException", "java/lang/Exception"]).filter goodWord ++ (vx_atS RX4 170 "java/lang/IndexOutOfBoundsException" ["java/lang/RuntimeException", "java/lang/Exception"]).filter goodWord ++ (vx_atS RX4 48 "java/lang/IllegalArgumentException" ["java/lang/RuntimeException", "java/lang/Exception"]).filter goodWord)
def wsL_sell_r1 : List Cond := [Cond.classLink RL 35 "java/lang/IndexOutOfBoundsException", Cond.classLink RL 13 "java/lang/IllegalArgumentException", Cond.classLink RL 22 "java/lang/IllegalStateException", Cond.methodLink RL 68 yX4_sell, Cond.instanceMethod yX4_sell, Cond.selects RX4 yX4_sell yX4_sell, Cond.initialized RX4, Cond.code yX4_sell cX4_sell 7 (some .long), Cond.classLink RX4 73 "java/lang/IllegalStateException", Cond.initialized "java/lang/IllegalStateException", Cond.fieldLink RX4 244 "BondDesk$Bond" "pieces" "I", Cond.fieldLink RX4 27 "BondDesk" "today" "I", Cond.fieldLink RX4 33 "BondDesk" "cash" "J", Cond.methodLink RX4 125 yX4_bondNumbered, Cond.instanceMethod yX4_bondNumbered, Cond.selects RX4 yX4_bondNumbered yX4_bondNumbered, Cond.code yX4_bondNumbered cX4_bondNumbered 3 (some (.object "BondDesk$Bond")), Cond.classLink RX4 166 "java/lang/IndexOutOfBoundsException", Cond.initialized "java/lang/IndexOutOfBoundsException", Cond.fieldLink RX4 15 "BondDesk" "bonds" "[LBondDesk$Bond;", Cond.methodLink RX4 233 yX4_requirePieces, Cond.static yX4_requirePieces, Cond.code yX4_requirePieces cX4_requirePieces 1 none, Cond.classLink RX4 44 "java/lang/IllegalArgumentException"]
def wsL_sell_r2 : List Cond := [Cond.initialized "java/lang/IllegalArgumentException", Cond.methodLink RX4 219 yX4_requirePrice, Cond.static yX4_requirePrice, Cond.code yX4_requirePrice cX4_requirePrice 1 none, Cond.methodLink RX4 236 yX4_requireWorkingDay, Cond.instanceMethod yX4_requireWorkingDay, Cond.selects RX4 yX4_requireWorkingDay yX4_requireWorkingDay, Cond.code yX4_requireWorkingDay cX4_requireWorkingDay 1 none, Cond.methodLink RX4 51 yX1_dayNumber, Cond.static yX1_dayNumber, Cond.initialized RX1, Cond.code yX1_dayNumber cX1_dayNumber 5 (some .int), Cond.fieldLink RX1 27 "BondDesk$Dates" "AHEAD" "[I", Cond.methodLink RX4 89 yX4_isWorkingDay, Cond.instanceMethod yX4_isWorkingDay, Cond.selects RX4 yX4_isWorkingDay yX4_isWorkingDay, Cond.code yX4_isWorkingDay cX4_isWorkingDay 2 (some .boolean), Cond.methodLink RX4 63 yX1_dayOfWeek, Cond.static yX1_dayOfWeek, Cond.code yX1_dayOfWeek cX1_dayOfWeek 1 (some .int), Cond.methodLink RX4 60 yX1_dateOf, Cond.static yX1_dateOf, Cond.code yX1_dateOf cX1_dateOf 5 (some .int), Cond.methodLink RX1 23 yX1_monthLength]
def wsL_sell_r3 : List Cond := [Cond.static yX1_monthLength, Cond.code yX1_monthLength cX1_monthLength 2 (some .int), Cond.methodLink RX4 66 yX4_isHoliday, Cond.instanceMethod yX4_isHoliday, Cond.selects RX4 yX4_isHoliday yX4_isHoliday, Cond.code yX4_isHoliday cX4_isHoliday 6 (some .boolean), Cond.fieldLink RX4 9 "BondDesk" "holidays" "[I", Cond.methodLink RX4 249 yX0_fullPrice, Cond.instanceMethod yX0_fullPrice, Cond.selects RX0 yX0_fullPrice yX0_fullPrice, Cond.initialized RX0, Cond.code yX0_fullPrice cX0_fullPrice 3 (some .long), Cond.constantLong RX0 52 (10000), Cond.fieldLink RX0 9 "BondDesk$Bond" "schedule" "LBondDesk$Schedule;", Cond.methodLink RX0 58 yX0_face, Cond.instanceMethod yX0_face, Cond.selects RX0 yX0_face yX0_face, Cond.code yX0_face cX0_face 1 (some .long), Cond.fieldLink RX0 15 "BondDesk$Bond" "factor" "I", Cond.methodLink RX0 54 yX0_faceOf, Cond.static yX0_faceOf, Cond.code yX0_faceOf cX0_faceOf 1 (some .long), Cond.constantLong RX0 50 (100000), Cond.methodLink RX0 62 yX3_accruedFor]
def wsL_sell_r4 : List Cond := [Cond.instanceMethod yX3_accruedFor, Cond.selects RX3 yX3_accruedFor yX3_accruedFor, Cond.initialized RX3, Cond.code yX3_accruedFor cX3_accruedFor 7 (some .long), Cond.fieldLink RX3 7 "BondDesk$Schedule" "issue" "I", Cond.fieldLink RX3 41 "BondDesk$Schedule" "dates" "[I", Cond.fieldLink RX3 16 "BondDesk$Schedule" "rate" "I", Cond.methodLink RX3 67 yX3_firstBehind, Cond.instanceMethod yX3_firstBehind, Cond.selects RX3 yX3_firstBehind yX3_firstBehind, Cond.code yX3_firstBehind cX3_firstBehind 3 (some .int), Cond.methodLink RX3 53 yX3_yearOfPeriod, Cond.instanceMethod yX3_yearOfPeriod, Cond.selects RX3 yX3_yearOfPeriod yX3_yearOfPeriod, Cond.code yX3_yearOfPeriod cX3_yearOfPeriod 3 (some .long), Cond.fieldLink RX3 22 "BondDesk$Schedule" "way" "I", Cond.constantLong RX3 80 (3650000), Cond.constantLong RX3 82 (3600000), Cond.fieldLink RX3 29 "BondDesk$Schedule" "regularBegin" "I", Cond.constantLong RX3 65 (10000), Cond.fieldLink RX3 19 "BondDesk$Schedule" "perYear" "I", Cond.methodLink RX3 77 yX1_daysBetween, Cond.static yX1_daysBetween, Cond.code yX1_daysBetween cX1_daysBetween 2 (some .int)]
def wsL_sell_r5 : List Cond := [Cond.methodLink RX1 31 yX1_dayNumber, Cond.methodLink RX3 71 yX3_beginOf, Cond.instanceMethod yX3_beginOf, Cond.selects RX3 yX3_beginOf yX3_beginOf, Cond.code yX3_beginOf cX3_beginOf 2 (some .int), Cond.methodLink RX3 45 yX3_daysCounted, Cond.instanceMethod yX3_daysCounted, Cond.selects RX3 yX3_daysCounted yX3_daysCounted, Cond.code yX3_daysCounted cX3_daysCounted 3 (some .long), Cond.methodLink RX3 74 yX1_daysOf30, Cond.static yX1_daysOf30, Cond.code yX1_daysOf30 cX1_daysOf30 4 (some .int), Cond.methodLink RX1 34 Lib.Math.min.name, Cond.static Lib.Math.min.name, Cond.initialized "java/lang/Math", Cond.code Lib.Math.min.name Lib.Math.min.code 2 (some .int), Cond.methodLink RX1 17 yX1_dayOf, Cond.static yX1_dayOf, Cond.code yX1_dayOf cX1_dayOf 1 (some .int), Cond.methodLink RX1 20 yX1_yearOf, Cond.static yX1_yearOf, Cond.code yX1_yearOf cX1_yearOf 1 (some .int), Cond.methodLink RX1 13 yX1_monthOf, Cond.static yX1_monthOf]
def wsL_sell_r6 : List Cond := [Cond.code yX1_monthOf cX1_monthOf 1 (some .int)]
def wsL_sell : List Cond := .codeWith yL_sell cL_sell 6 (some .int) [(0, 11, 14, 35), (0, 11, 18, 13), (0, 11, 22, 22)] :: ((wsL_sell_r1 ++ (wsL_sell_r2 ++ (wsL_sell_r3 ++ (wsL_sell_r4 ++ (wsL_sell_r5 ++ wsL_sell_r6))))) ++ wsX00 ++ wsX40 ++ wsX30 ++ (vx_atS RX4 77 "java/lang/IllegalStateException" ["java/lang/RuntimeException", "java/lang/Exception"]).filter goodWord ++ (vx_atS RX4 170 "java/lang/IndexOutOfBoundsException" ["java/lang/RuntimeException", "java/lang/Exception"]).filter goodWord ++ (vx_atS RX4 48 "java/lang/IllegalArgumentException" ["java/lang/RuntimeException", "java/lang/Exception"]).filter goodWord)
def wsL_pass_r1 : List Cond := [Cond.classLink RL 13 "java/lang/IllegalArgumentException", Cond.classLink RL 22 "java/lang/IllegalStateException", Cond.methodLink RL 71 yX4_pass, Cond.instanceMethod yX4_pass, Cond.selects RX4 yX4_pass yX4_pass, Cond.initialized RX4, Cond.code yX4_pass cX4_pass 7 (some .long), Cond.classLink RX4 44 "java/lang/IllegalArgumentException", Cond.initialized "java/lang/IllegalArgumentException", Cond.classLink RX4 73 "java/lang/IllegalStateException", Cond.initialized "java/lang/IllegalStateException", Cond.fieldLink RX4 27 "BondDesk" "today" "I", Cond.constant RX4 78 (20661101), Cond.fieldLink RX4 22 "BondDesk" "paid" "LBondDesk$Ledger;", Cond.fieldLink RX4 33 "BondDesk" "cash" "J", Cond.methodLink RX4 51 yX1_dayNumber, Cond.static yX1_dayNumber, Cond.initialized RX1, Cond.code yX1_dayNumber cX1_dayNumber 5 (some .int), Cond.fieldLink RX1 27 "BondDesk$Dates" "AHEAD" "[I", Cond.methodLink RX4 261 yX2_all, Cond.instanceMethod yX2_all, Cond.selects RX2 yX2_all yX2_all, Cond.initialized RX2]
def wsL_pass_r2 : List Cond := [Cond.code yX2_all cX2_all 1 (some .long), Cond.fieldLink RX2 7 "BondDesk$Ledger" "coupons" "J", Cond.fieldLink RX2 13 "BondDesk$Ledger" "sinking" "J", Cond.fieldLink RX2 16 "BondDesk$Ledger" "calls" "J", Cond.fieldLink RX2 19 "BondDesk$Ledger" "ends" "J", Cond.methodLink RX4 60 yX1_dateOf, Cond.static yX1_dateOf, Cond.code yX1_dateOf cX1_dateOf 5 (some .int), Cond.methodLink RX1 23 yX1_monthLength, Cond.static yX1_monthLength, Cond.code yX1_monthLength cX1_monthLength 2 (some .int), Cond.methodLink RX4 89 yX4_isWorkingDay, Cond.instanceMethod yX4_isWorkingDay, Cond.selects RX4 yX4_isWorkingDay yX4_isWorkingDay, Cond.code yX4_isWorkingDay cX4_isWorkingDay 2 (some .boolean), Cond.methodLink RX4 63 yX1_dayOfWeek, Cond.static yX1_dayOfWeek, Cond.code yX1_dayOfWeek cX1_dayOfWeek 1 (some .int), Cond.methodLink RX4 66 yX4_isHoliday, Cond.instanceMethod yX4_isHoliday, Cond.selects RX4 yX4_isHoliday yX4_isHoliday, Cond.code yX4_isHoliday cX4_isHoliday 6 (some .boolean), Cond.fieldLink RX4 9 "BondDesk" "holidays" "[I", Cond.methodLink RX4 265 yX4_lookAtBonds]
def wsL_pass_r3 : List Cond := [Cond.instanceMethod yX4_lookAtBonds, Cond.selects RX4 yX4_lookAtBonds yX4_lookAtBonds, Cond.code yX4_lookAtBonds cX4_lookAtBonds 5 none, Cond.fieldLink RX4 15 "BondDesk" "bonds" "[LBondDesk$Bond;", Cond.fieldLink RX4 37 "BondDesk" "refinancing" "I", Cond.methodLink RX4 316 yX0_lookUpTo, Cond.instanceMethod yX0_lookUpTo, Cond.selects RX0 yX0_lookUpTo yX0_lookUpTo, Cond.initialized RX0, Cond.code yX0_lookUpTo cX0_lookUpTo 5 none, Cond.fieldLink RX0 25 "BondDesk$Bond" "next" "I", Cond.fieldLink RX0 9 "BondDesk$Bond" "schedule" "LBondDesk$Schedule;", Cond.fieldLink RX0 66 "BondDesk$Schedule" "dates" "[I", Cond.methodLink RX0 34 yX0_isGone, Cond.instanceMethod yX0_isGone, Cond.selects RX0 yX0_isGone yX0_isGone, Cond.code yX0_isGone cX0_isGone 1 (some .boolean), Cond.fieldLink RX0 28 "BondDesk$Bond" "state" "I", Cond.methodLink RX0 137 yX0_lookAt, Cond.instanceMethod yX0_lookAt, Cond.selects RX0 yX0_lookAt yX0_lookAt, Cond.code yX0_lookAt cX0_lookAt 5 none, Cond.fieldLink RX0 141 "BondDesk$Ledger" "coupons" "J", Cond.fieldLink RX0 147 "BondDesk$Bond" "pieces" "I"]
def wsL_pass_r4 : List Cond := [Cond.fieldLink RX0 150 "BondDesk$Ledger" "ends" "J", Cond.fieldLink RX0 15 "BondDesk$Bond" "factor" "I", Cond.fieldLink RX0 157 "BondDesk$Ledger" "sinking" "J", Cond.fieldLink RX0 160 "BondDesk$Ledger" "calls" "J", Cond.methodLink RX0 58 yX0_face, Cond.instanceMethod yX0_face, Cond.selects RX0 yX0_face yX0_face, Cond.code yX0_face cX0_face 1 (some .long), Cond.methodLink RX0 54 yX0_faceOf, Cond.static yX0_faceOf, Cond.code yX0_faceOf cX0_faceOf 1 (some .long), Cond.constantLong RX0 50 (100000), Cond.constantLong RX0 52 (10000), Cond.methodLink RX0 82 yX3_couponFor, Cond.instanceMethod yX3_couponFor, Cond.selects RX3 yX3_couponFor yX3_couponFor, Cond.initialized RX3, Cond.code yX3_couponFor cX3_couponFor 6 (some .long), Cond.fieldLink RX3 29 "BondDesk$Schedule" "regularBegin" "I", Cond.fieldLink RX3 7 "BondDesk$Schedule" "issue" "I", Cond.fieldLink RX3 57 "BondDesk$Schedule" "firstYear" "J", Cond.fieldLink RX3 16 "BondDesk$Schedule" "rate" "I", Cond.fieldLink RX3 49 "BondDesk$Schedule" "firstDays" "J", Cond.constantLong RX3 65 (10000)]
def wsL_pass_r5 : List Cond := [Cond.fieldLink RX3 19 "BondDesk$Schedule" "perYear" "I", Cond.methodLink RX0 85 yX0_isEnd, Cond.instanceMethod yX0_isEnd, Cond.selects RX0 yX0_isEnd yX0_isEnd, Cond.code yX0_isEnd cX0_isEnd 2 (some .boolean), Cond.methodLink RX0 153 yX0_leave, Cond.instanceMethod yX0_leave, Cond.selects RX0 yX0_leave yX0_leave, Cond.code yX0_leave cX0_leave 2 none, Cond.methodLink RX0 88 yX0_sunkOn, Cond.instanceMethod yX0_sunkOn, Cond.selects RX0 yX0_sunkOn yX0_sunkOn, Cond.code yX0_sunkOn cX0_sunkOn 4 (some .int), Cond.fieldLink RX0 70 "BondDesk$Bond" "sinkFrom" "I", Cond.fieldLink RX0 73 "BondDesk$Bond" "sinkPart" "I", Cond.methodLink RX0 76 Lib.Math.min.name, Cond.static Lib.Math.min.name, Cond.initialized "java/lang/Math", Cond.code Lib.Math.min.name Lib.Math.min.code 2 (some .int), Cond.methodLink RX0 124 yX0_isCallDate, Cond.instanceMethod yX0_isCallDate, Cond.selects RX0 yX0_isCallDate yX0_isCallDate, Cond.code yX0_isCallDate cX0_isCallDate 2 (some .boolean), Cond.fieldLink RX0 118 "BondDesk$Bond" "callPrice" "I"]
def wsL_pass_r6 : List Cond := [Cond.fieldLink RX0 121 "BondDesk$Bond" "callFrom" "I", Cond.methodLink RX0 107 yX0_worthAt, Cond.instanceMethod yX0_worthAt, Cond.selects RX0 yX0_worthAt yX0_worthAt, Cond.code yX0_worthAt cX0_worthAt 14 (some .long), Cond.fieldLink RX0 91 "BondDesk$Schedule" "perYear" "I", Cond.constantLong RX0 94 (3650000), Cond.constantLong RX0 99 (3650000000000000), Cond.constantLong RX0 105 (1000000000), Cond.methodLink RX0 19 yX3_firstBehind, Cond.instanceMethod yX3_firstBehind, Cond.selects RX3 yX3_firstBehind yX3_firstBehind, Cond.code yX3_firstBehind cX3_firstBehind 3 (some .int), Cond.fieldLink RX3 41 "BondDesk$Schedule" "dates" "[I", Cond.methodLink RX0 96 yX1_daysBetween, Cond.static yX1_daysBetween, Cond.code yX1_daysBetween cX1_daysBetween 2 (some .int), Cond.methodLink RX1 31 yX1_dayNumber, Cond.methodLink RX0 101 yX0_paymentOn, Cond.instanceMethod yX0_paymentOn, Cond.selects RX0 yX0_paymentOn yX0_paymentOn, Cond.code yX0_paymentOn cX0_paymentOn 3 (some .long), Cond.methodLink RX0 134 yX0_callPayment, Cond.instanceMethod yX0_callPayment]
def wsL_pass_r7 : List Cond := [Cond.selects RX0 yX0_callPayment yX0_callPayment, Cond.code yX0_callPayment cX0_callPayment 2 (some .long)]
def wsL_pass : List Cond := .codeWith yL_pass cL_pass 4 (some .int) [(0, 8, 11, 13), (0, 8, 14, 22)] :: ((wsL_pass_r1 ++ (wsL_pass_r2 ++ (wsL_pass_r3 ++ (wsL_pass_r4 ++ (wsL_pass_r5 ++ (wsL_pass_r6 ++ wsL_pass_r7)))))) ++ wsX40 ++ wsX20 ++ wsX00 ++ wsX30 ++ (vx_atS RX4 48 "java/lang/IllegalArgumentException" ["java/lang/RuntimeException", "java/lang/Exception"]).filter goodWord ++ (vx_atS RX4 77 "java/lang/IllegalStateException" ["java/lang/RuntimeException", "java/lang/Exception"]).filter goodWord)
def wsL_count_r1 : List Cond := [Cond.classLink RL 35 "java/lang/IndexOutOfBoundsException", Cond.methodLink RL 75 yX4_count, Cond.instanceMethod yX4_count, Cond.selects RX4 yX4_count yX4_count, Cond.initialized RX4, Cond.code yX4_count cX4_count 2 (some .long), Cond.classLink RX4 166 "java/lang/IndexOutOfBoundsException", Cond.initialized "java/lang/IndexOutOfBoundsException", Cond.methodLink RX4 270 yX4_tell, Cond.instanceMethod yX4_tell, Cond.selects RX4 yX4_tell yX4_tell, Cond.code yX4_tell cX4_tell 2 (some .long), Cond.fieldLink RX4 27 "BondDesk" "today" "I", Cond.fieldLink RX4 33 "BondDesk" "cash" "J", Cond.fieldLink RX4 37 "BondDesk" "refinancing" "I", Cond.fieldLink RX4 114 "BondDesk" "bondCount" "I", Cond.fieldLink RX4 70 "BondDesk" "holidayCount" "I", Cond.fieldLink RX4 22 "BondDesk" "paid" "LBondDesk$Ledger;", Cond.fieldLink RX4 332 "BondDesk$Ledger" "coupons" "J", Cond.fieldLink RX4 335 "BondDesk$Ledger" "sinking" "J", Cond.fieldLink RX4 338 "BondDesk$Ledger" "calls" "J", Cond.fieldLink RX4 341 "BondDesk$Ledger" "ends" "J", Cond.methodLink RX4 326 yX4_bondsThere, Cond.instanceMethod yX4_bondsThere]
def wsL_count_r2 : List Cond := [Cond.selects RX4 yX4_bondsThere yX4_bondsThere, Cond.code yX4_bondsThere cX4_bondsThere 6 (some .int), Cond.fieldLink RX4 15 "BondDesk" "bonds" "[LBondDesk$Bond;", Cond.methodLink RX4 201 yX0_isGone, Cond.instanceMethod yX0_isGone, Cond.selects RX0 yX0_isGone yX0_isGone, Cond.initialized RX0, Cond.code yX0_isGone cX0_isGone 1 (some .boolean), Cond.fieldLink RX0 28 "BondDesk$Bond" "state" "I", Cond.methodLink RX4 329 yX4_piecesHeld, Cond.instanceMethod yX4_piecesHeld, Cond.selects RX4 yX4_piecesHeld yX4_piecesHeld, Cond.code yX4_piecesHeld cX4_piecesHeld 6 (some .int), Cond.fieldLink RX4 244 "BondDesk$Bond" "pieces" "I", Cond.methodLink RX4 344 yX4_worthHeld, Cond.instanceMethod yX4_worthHeld, Cond.selects RX4 yX4_worthHeld yX4_worthHeld, Cond.code yX4_worthHeld cX4_worthHeld 7 (some .long), Cond.fieldLink RX4 212 "BondDesk$Bond" "factor" "I", Cond.methodLink RX4 215 yX0_worthAt, Cond.instanceMethod yX0_worthAt, Cond.selects RX0 yX0_worthAt yX0_worthAt, Cond.code yX0_worthAt cX0_worthAt 14 (some .long), Cond.fieldLink RX0 9 "BondDesk$Bond" "schedule" "LBondDesk$Schedule;"]
def wsL_count_r3 : List Cond := [Cond.constantLong RX0 52 (10000), Cond.fieldLink RX0 91 "BondDesk$Schedule" "perYear" "I", Cond.fieldLink RX0 66 "BondDesk$Schedule" "dates" "[I", Cond.constantLong RX0 94 (3650000), Cond.constantLong RX0 99 (3650000000000000), Cond.constantLong RX0 105 (1000000000), Cond.methodLink RX0 19 yX3_firstBehind, Cond.instanceMethod yX3_firstBehind, Cond.selects RX3 yX3_firstBehind yX3_firstBehind, Cond.initialized RX3, Cond.code yX3_firstBehind cX3_firstBehind 3 (some .int), Cond.fieldLink RX3 41 "BondDesk$Schedule" "dates" "[I", Cond.methodLink RX0 34 yX0_isGone, Cond.methodLink RX0 96 yX1_daysBetween, Cond.static yX1_daysBetween, Cond.initialized RX1, Cond.code yX1_daysBetween cX1_daysBetween 2 (some .int), Cond.methodLink RX1 31 yX1_dayNumber, Cond.static yX1_dayNumber, Cond.code yX1_dayNumber cX1_dayNumber 5 (some .int), Cond.fieldLink RX1 27 "BondDesk$Dates" "AHEAD" "[I", Cond.methodLink RX0 101 yX0_paymentOn, Cond.instanceMethod yX0_paymentOn, Cond.selects RX0 yX0_paymentOn yX0_paymentOn]
def wsL_count_r4 : List Cond := [Cond.code yX0_paymentOn cX0_paymentOn 3 (some .long), Cond.methodLink RX0 54 yX0_faceOf, Cond.static yX0_faceOf, Cond.code yX0_faceOf cX0_faceOf 1 (some .long), Cond.constantLong RX0 50 (100000), Cond.methodLink RX0 82 yX3_couponFor, Cond.instanceMethod yX3_couponFor, Cond.selects RX3 yX3_couponFor yX3_couponFor, Cond.code yX3_couponFor cX3_couponFor 6 (some .long), Cond.fieldLink RX3 29 "BondDesk$Schedule" "regularBegin" "I", Cond.fieldLink RX3 7 "BondDesk$Schedule" "issue" "I", Cond.fieldLink RX3 57 "BondDesk$Schedule" "firstYear" "J", Cond.fieldLink RX3 16 "BondDesk$Schedule" "rate" "I", Cond.fieldLink RX3 49 "BondDesk$Schedule" "firstDays" "J", Cond.constantLong RX3 65 (10000), Cond.fieldLink RX3 19 "BondDesk$Schedule" "perYear" "I", Cond.methodLink RX0 85 yX0_isEnd, Cond.instanceMethod yX0_isEnd, Cond.selects RX0 yX0_isEnd yX0_isEnd, Cond.code yX0_isEnd cX0_isEnd 2 (some .boolean), Cond.methodLink RX0 88 yX0_sunkOn, Cond.instanceMethod yX0_sunkOn, Cond.selects RX0 yX0_sunkOn yX0_sunkOn, Cond.code yX0_sunkOn cX0_sunkOn 4 (some .int)]
def wsL_count_r5 : List Cond := [Cond.fieldLink RX0 70 "BondDesk$Bond" "sinkFrom" "I", Cond.fieldLink RX0 73 "BondDesk$Bond" "sinkPart" "I", Cond.methodLink RX0 76 Lib.Math.min.name, Cond.static Lib.Math.min.name, Cond.initialized "java/lang/Math", Cond.code Lib.Math.min.name Lib.Math.min.code 2 (some .int)]
def wsL_count : List Cond := .codeWith yL_count cL_count 4 (some .int) [(0, 8, 11, 35)] :: ((wsL_count_r1 ++ (wsL_count_r2 ++ (wsL_count_r3 ++ (wsL_count_r4 ++ wsL_count_r5)))) ++ wsX40 ++ wsX20 ++ wsX00 ++ wsX30 ++ (vx_atS RX4 170 "java/lang/IndexOutOfBoundsException" ["java/lang/RuntimeException", "java/lang/Exception"]).filter goodWord)
def wsL_paysIn_r1 : List Cond := [Cond.classLink RL 13 "java/lang/IllegalArgumentException", Cond.methodLink RL 78 yX4_paysIn, Cond.instanceMethod yX4_paysIn, Cond.selects RX4 yX4_paysIn yX4_paysIn, Cond.initialized RX4, Cond.code yX4_paysIn cX4_paysIn 8 (some .long), Cond.fieldLink RX4 15 "BondDesk" "bonds" "[LBondDesk$Bond;", Cond.fieldLink RX4 244 "BondDesk$Bond" "pieces" "I", Cond.fieldLink RX4 27 "BondDesk" "today" "I", Cond.methodLink RX4 272 yX4_requireYear, Cond.static yX4_requireYear, Cond.code yX4_requireYear cX4_requireYear 1 none, Cond.classLink RX4 44 "java/lang/IllegalArgumentException", Cond.initialized "java/lang/IllegalArgumentException", Cond.methodLink RX4 275 yX0_paymentsIn, Cond.instanceMethod yX0_paymentsIn, Cond.selects RX0 yX0_paymentsIn yX0_paymentsIn, Cond.initialized RX0, Cond.code yX0_paymentsIn cX0_paymentsIn 7 (some .long), Cond.fieldLink RX0 15 "BondDesk$Bond" "factor" "I", Cond.fieldLink RX0 9 "BondDesk$Bond" "schedule" "LBondDesk$Schedule;", Cond.fieldLink RX0 66 "BondDesk$Schedule" "dates" "[I", Cond.methodLink RX0 19 yX3_firstBehind, Cond.instanceMethod yX3_firstBehind]
def wsL_paysIn_r2 : List Cond := [Cond.selects RX3 yX3_firstBehind yX3_firstBehind, Cond.initialized RX3, Cond.code yX3_firstBehind cX3_firstBehind 3 (some .int), Cond.fieldLink RX3 41 "BondDesk$Schedule" "dates" "[I", Cond.methodLink RX0 45 yX1_yearOf, Cond.static yX1_yearOf, Cond.initialized RX1, Cond.code yX1_yearOf cX1_yearOf 1 (some .int), Cond.methodLink RX0 101 yX0_paymentOn, Cond.instanceMethod yX0_paymentOn, Cond.selects RX0 yX0_paymentOn yX0_paymentOn, Cond.code yX0_paymentOn cX0_paymentOn 3 (some .long), Cond.methodLink RX0 54 yX0_faceOf, Cond.static yX0_faceOf, Cond.code yX0_faceOf cX0_faceOf 1 (some .long), Cond.constantLong RX0 50 (100000), Cond.constantLong RX0 52 (10000), Cond.methodLink RX0 82 yX3_couponFor, Cond.instanceMethod yX3_couponFor, Cond.selects RX3 yX3_couponFor yX3_couponFor, Cond.code yX3_couponFor cX3_couponFor 6 (some .long), Cond.fieldLink RX3 29 "BondDesk$Schedule" "regularBegin" "I", Cond.fieldLink RX3 7 "BondDesk$Schedule" "issue" "I", Cond.fieldLink RX3 57 "BondDesk$Schedule" "firstYear" "J"]
def wsL_paysIn_r3 : List Cond := [Cond.fieldLink RX3 16 "BondDesk$Schedule" "rate" "I", Cond.fieldLink RX3 49 "BondDesk$Schedule" "firstDays" "J", Cond.constantLong RX3 65 (10000), Cond.fieldLink RX3 19 "BondDesk$Schedule" "perYear" "I", Cond.methodLink RX0 85 yX0_isEnd, Cond.instanceMethod yX0_isEnd, Cond.selects RX0 yX0_isEnd yX0_isEnd, Cond.code yX0_isEnd cX0_isEnd 2 (some .boolean), Cond.methodLink RX0 88 yX0_sunkOn, Cond.instanceMethod yX0_sunkOn, Cond.selects RX0 yX0_sunkOn yX0_sunkOn, Cond.code yX0_sunkOn cX0_sunkOn 4 (some .int), Cond.fieldLink RX0 70 "BondDesk$Bond" "sinkFrom" "I", Cond.fieldLink RX0 73 "BondDesk$Bond" "sinkPart" "I", Cond.methodLink RX0 76 Lib.Math.min.name, Cond.static Lib.Math.min.name, Cond.initialized "java/lang/Math", Cond.code Lib.Math.min.name Lib.Math.min.code 2 (some .int)]
def wsL_paysIn : List Cond := .codeWith yL_paysIn cL_paysIn 4 (some .int) [(0, 8, 11, 13)] :: ((wsL_paysIn_r1 ++ (wsL_paysIn_r2 ++ wsL_paysIn_r3)) ++ wsX40 ++ wsX00 ++ wsX30 ++ (vx_atS RX4 48 "java/lang/IllegalArgumentException" ["java/lang/RuntimeException", "java/lang/Exception"]).filter goodWord)
def wsL_ladder_r1 : List Cond := [Cond.classLink RL 13 "java/lang/IllegalArgumentException", Cond.methodLink RL 81 yX4_ladder, Cond.instanceMethod yX4_ladder, Cond.selects RX4 yX4_ladder yX4_ladder, Cond.initialized RX4, Cond.code yX4_ladder cX4_ladder 8 (some .int), Cond.classLink RX4 44 "java/lang/IllegalArgumentException", Cond.initialized "java/lang/IllegalArgumentException", Cond.fieldLink RX4 33 "BondDesk" "cash" "J", Cond.constantLong RX4 283 (1000000), Cond.methodLink RX4 285 Lib.MathLoose.min_long.x, Cond.static Lib.MathLoose.min_long.x, Cond.initialized "java/lang/Math", Cond.code Lib.MathLoose.min_long.x Lib.MathLoose.min_long.code 4 (some .long), Cond.methodLink RX4 272 yX4_requireYear, Cond.static yX4_requireYear, Cond.code yX4_requireYear cX4_requireYear 1 none, Cond.methodLink RX4 280 yX4_leastWorth, Cond.instanceMethod yX4_leastWorth, Cond.selects RX4 yX4_leastWorth yX4_leastWorth, Cond.code yX4_leastWorth cX4_leastWorth 10 (some .long), Cond.constantLong RX4 320 (-1), Cond.fieldLink RX4 15 "BondDesk" "bonds" "[LBondDesk$Bond;", Cond.fieldLink RX4 27 "BondDesk" "today" "I"]
def wsL_ladder_r2 : List Cond := [Cond.fieldLink RX4 212 "BondDesk$Bond" "factor" "I", Cond.fieldLink RX4 37 "BondDesk" "refinancing" "I", Cond.methodLink RX4 322 yX0_isRung, Cond.instanceMethod yX0_isRung, Cond.selects RX0 yX0_isRung yX0_isRung, Cond.initialized RX0, Cond.code yX0_isRung cX0_isRung 3 (some .boolean), Cond.fieldLink RX0 9 "BondDesk$Bond" "schedule" "LBondDesk$Schedule;", Cond.fieldLink RX0 42 "BondDesk$Schedule" "end" "I", Cond.methodLink RX0 34 yX0_isGone, Cond.instanceMethod yX0_isGone, Cond.selects RX0 yX0_isGone yX0_isGone, Cond.code yX0_isGone cX0_isGone 1 (some .boolean), Cond.fieldLink RX0 28 "BondDesk$Bond" "state" "I", Cond.methodLink RX0 38 yX0_isIssued, Cond.instanceMethod yX0_isIssued, Cond.selects RX0 yX0_isIssued yX0_isIssued, Cond.code yX0_isIssued cX0_isIssued 2 (some .boolean), Cond.fieldLink RX0 31 "BondDesk$Schedule" "issue" "I", Cond.methodLink RX0 45 yX1_yearOf, Cond.static yX1_yearOf, Cond.initialized RX1, Cond.code yX1_yearOf cX1_yearOf 1 (some .int), Cond.methodLink RX4 215 yX0_worthAt]
def wsL_ladder_r3 : List Cond := [Cond.instanceMethod yX0_worthAt, Cond.selects RX0 yX0_worthAt yX0_worthAt, Cond.code yX0_worthAt cX0_worthAt 14 (some .long), Cond.constantLong RX0 52 (10000), Cond.fieldLink RX0 91 "BondDesk$Schedule" "perYear" "I", Cond.fieldLink RX0 66 "BondDesk$Schedule" "dates" "[I", Cond.constantLong RX0 94 (3650000), Cond.constantLong RX0 99 (3650000000000000), Cond.constantLong RX0 105 (1000000000), Cond.methodLink RX0 19 yX3_firstBehind, Cond.instanceMethod yX3_firstBehind, Cond.selects RX3 yX3_firstBehind yX3_firstBehind, Cond.initialized RX3, Cond.code yX3_firstBehind cX3_firstBehind 3 (some .int), Cond.fieldLink RX3 41 "BondDesk$Schedule" "dates" "[I", Cond.methodLink RX0 96 yX1_daysBetween, Cond.static yX1_daysBetween, Cond.code yX1_daysBetween cX1_daysBetween 2 (some .int), Cond.methodLink RX1 31 yX1_dayNumber, Cond.static yX1_dayNumber, Cond.code yX1_dayNumber cX1_dayNumber 5 (some .int), Cond.fieldLink RX1 27 "BondDesk$Dates" "AHEAD" "[I", Cond.methodLink RX0 101 yX0_paymentOn, Cond.instanceMethod yX0_paymentOn]
def wsL_ladder_r4 : List Cond := [Cond.selects RX0 yX0_paymentOn yX0_paymentOn, Cond.code yX0_paymentOn cX0_paymentOn 3 (some .long), Cond.methodLink RX0 54 yX0_faceOf, Cond.static yX0_faceOf, Cond.code yX0_faceOf cX0_faceOf 1 (some .long), Cond.constantLong RX0 50 (100000), Cond.methodLink RX0 82 yX3_couponFor, Cond.instanceMethod yX3_couponFor, Cond.selects RX3 yX3_couponFor yX3_couponFor, Cond.code yX3_couponFor cX3_couponFor 6 (some .long), Cond.fieldLink RX3 29 "BondDesk$Schedule" "regularBegin" "I", Cond.fieldLink RX3 7 "BondDesk$Schedule" "issue" "I", Cond.fieldLink RX3 57 "BondDesk$Schedule" "firstYear" "J", Cond.fieldLink RX3 16 "BondDesk$Schedule" "rate" "I", Cond.fieldLink RX3 49 "BondDesk$Schedule" "firstDays" "J", Cond.constantLong RX3 65 (10000), Cond.fieldLink RX3 19 "BondDesk$Schedule" "perYear" "I", Cond.methodLink RX0 85 yX0_isEnd, Cond.instanceMethod yX0_isEnd, Cond.selects RX0 yX0_isEnd yX0_isEnd, Cond.code yX0_isEnd cX0_isEnd 2 (some .boolean), Cond.methodLink RX0 88 yX0_sunkOn, Cond.instanceMethod yX0_sunkOn, Cond.selects RX0 yX0_sunkOn yX0_sunkOn]
def wsL_ladder_r5 : List Cond := [Cond.code yX0_sunkOn cX0_sunkOn 4 (some .int), Cond.fieldLink RX0 70 "BondDesk$Bond" "sinkFrom" "I", Cond.fieldLink RX0 73 "BondDesk$Bond" "sinkPart" "I", Cond.methodLink RX0 76 Lib.Math.min.name, Cond.static Lib.Math.min.name, Cond.code Lib.Math.min.name Lib.Math.min.code 2 (some .int)]
def wsL_ladder : List Cond := .codeWith yL_ladder cL_ladder 5 (some .int) [(0, 10, 13, 13)] :: ((wsL_ladder_r1 ++ (wsL_ladder_r2 ++ (wsL_ladder_r3 ++ (wsL_ladder_r4 ++ wsL_ladder_r5)))) ++ wsX40 ++ wsX00 ++ wsX30 ++ (vx_atS RX4 48 "java/lang/IllegalArgumentException" ["java/lang/RuntimeException", "java/lang/Exception"]).filter goodWord)
def wsL_best_r1 : List Cond := [Cond.classLink RL 13 "java/lang/IllegalArgumentException", Cond.methodLink RL 84 yX4_best, Cond.instanceMethod yX4_best, Cond.selects RX4 yX4_best yX4_best, Cond.initialized RX4, Cond.code yX4_best cX4_best 7 (some .int), Cond.fieldLink RX4 15 "BondDesk" "bonds" "[LBondDesk$Bond;", Cond.fieldLink RX4 27 "BondDesk" "today" "I", Cond.methodLink RX4 219 yX4_requirePrice, Cond.static yX4_requirePrice, Cond.code yX4_requirePrice cX4_requirePrice 1 none, Cond.classLink RX4 44 "java/lang/IllegalArgumentException", Cond.initialized "java/lang/IllegalArgumentException", Cond.methodLink RX4 201 yX0_isGone, Cond.instanceMethod yX0_isGone, Cond.selects RX0 yX0_isGone yX0_isGone, Cond.initialized RX0, Cond.code yX0_isGone cX0_isGone 1 (some .boolean), Cond.fieldLink RX0 28 "BondDesk$Bond" "state" "I", Cond.methodLink RX4 239 yX0_isIssued, Cond.instanceMethod yX0_isIssued, Cond.selects RX0 yX0_isIssued yX0_isIssued, Cond.code yX0_isIssued cX0_isIssued 2 (some .boolean), Cond.fieldLink RX0 9 "BondDesk$Bond" "schedule" "LBondDesk$Schedule;"]
def wsL_best_r2 : List Cond := [Cond.fieldLink RX0 31 "BondDesk$Schedule" "issue" "I", Cond.methodLink RX4 222 yX0_yieldAt, Cond.instanceMethod yX0_yieldAt, Cond.selects RX0 yX0_yieldAt yX0_yieldAt, Cond.code yX0_yieldAt cX0_yieldAt 3 (some .int), Cond.fieldLink RX0 15 "BondDesk$Bond" "factor" "I", Cond.methodLink RX0 34 yX0_isGone, Cond.methodLink RX0 111 yX0_fullPrice, Cond.instanceMethod yX0_fullPrice, Cond.selects RX0 yX0_fullPrice yX0_fullPrice, Cond.code yX0_fullPrice cX0_fullPrice 3 (some .long), Cond.constantLong RX0 52 (10000), Cond.methodLink RX0 58 yX0_face, Cond.instanceMethod yX0_face, Cond.selects RX0 yX0_face yX0_face, Cond.code yX0_face cX0_face 1 (some .long), Cond.methodLink RX0 54 yX0_faceOf, Cond.static yX0_faceOf, Cond.code yX0_faceOf cX0_faceOf 1 (some .long), Cond.constantLong RX0 50 (100000), Cond.methodLink RX0 62 yX3_accruedFor, Cond.instanceMethod yX3_accruedFor, Cond.selects RX3 yX3_accruedFor yX3_accruedFor, Cond.initialized RX3]
def wsL_best_r3 : List Cond := [Cond.code yX3_accruedFor cX3_accruedFor 7 (some .long), Cond.fieldLink RX3 7 "BondDesk$Schedule" "issue" "I", Cond.fieldLink RX3 41 "BondDesk$Schedule" "dates" "[I", Cond.fieldLink RX3 16 "BondDesk$Schedule" "rate" "I", Cond.methodLink RX3 67 yX3_firstBehind, Cond.instanceMethod yX3_firstBehind, Cond.selects RX3 yX3_firstBehind yX3_firstBehind, Cond.code yX3_firstBehind cX3_firstBehind 3 (some .int), Cond.methodLink RX3 53 yX3_yearOfPeriod, Cond.instanceMethod yX3_yearOfPeriod, Cond.selects RX3 yX3_yearOfPeriod yX3_yearOfPeriod, Cond.code yX3_yearOfPeriod cX3_yearOfPeriod 3 (some .long), Cond.fieldLink RX3 22 "BondDesk$Schedule" "way" "I", Cond.constantLong RX3 80 (3650000), Cond.constantLong RX3 82 (3600000), Cond.fieldLink RX3 29 "BondDesk$Schedule" "regularBegin" "I", Cond.constantLong RX3 65 (10000), Cond.fieldLink RX3 19 "BondDesk$Schedule" "perYear" "I", Cond.methodLink RX3 77 yX1_daysBetween, Cond.static yX1_daysBetween, Cond.initialized RX1, Cond.code yX1_daysBetween cX1_daysBetween 2 (some .int), Cond.methodLink RX1 31 yX1_dayNumber, Cond.static yX1_dayNumber]
def wsL_best_r4 : List Cond := [Cond.code yX1_dayNumber cX1_dayNumber 5 (some .int), Cond.fieldLink RX1 27 "BondDesk$Dates" "AHEAD" "[I", Cond.methodLink RX3 71 yX3_beginOf, Cond.instanceMethod yX3_beginOf, Cond.selects RX3 yX3_beginOf yX3_beginOf, Cond.code yX3_beginOf cX3_beginOf 2 (some .int), Cond.methodLink RX3 45 yX3_daysCounted, Cond.instanceMethod yX3_daysCounted, Cond.selects RX3 yX3_daysCounted yX3_daysCounted, Cond.code yX3_daysCounted cX3_daysCounted 3 (some .long), Cond.methodLink RX3 74 yX1_daysOf30, Cond.static yX1_daysOf30, Cond.code yX1_daysOf30 cX1_daysOf30 4 (some .int), Cond.methodLink RX1 34 Lib.Math.min.name, Cond.static Lib.Math.min.name, Cond.initialized "java/lang/Math", Cond.code Lib.Math.min.name Lib.Math.min.code 2 (some .int), Cond.methodLink RX1 17 yX1_dayOf, Cond.static yX1_dayOf, Cond.code yX1_dayOf cX1_dayOf 1 (some .int), Cond.methodLink RX1 20 yX1_yearOf, Cond.static yX1_yearOf, Cond.code yX1_yearOf cX1_yearOf 1 (some .int), Cond.methodLink RX1 13 yX1_monthOf]
def wsL_best_r5 : List Cond := [Cond.static yX1_monthOf, Cond.code yX1_monthOf cX1_monthOf 1 (some .int), Cond.methodLink RX0 114 yX0_greatestRate, Cond.instanceMethod yX0_greatestRate, Cond.selects RX0 yX0_greatestRate yX0_greatestRate, Cond.code yX0_greatestRate cX0_greatestRate 8 (some .int), Cond.methodLink RX0 107 yX0_worthAt, Cond.instanceMethod yX0_worthAt, Cond.selects RX0 yX0_worthAt yX0_worthAt, Cond.code yX0_worthAt cX0_worthAt 14 (some .long), Cond.fieldLink RX0 91 "BondDesk$Schedule" "perYear" "I", Cond.fieldLink RX0 66 "BondDesk$Schedule" "dates" "[I", Cond.constantLong RX0 94 (3650000), Cond.constantLong RX0 99 (3650000000000000), Cond.constantLong RX0 105 (1000000000), Cond.methodLink RX0 19 yX3_firstBehind, Cond.methodLink RX0 96 yX1_daysBetween, Cond.methodLink RX0 101 yX0_paymentOn, Cond.instanceMethod yX0_paymentOn, Cond.selects RX0 yX0_paymentOn yX0_paymentOn, Cond.code yX0_paymentOn cX0_paymentOn 3 (some .long), Cond.methodLink RX0 82 yX3_couponFor, Cond.instanceMethod yX3_couponFor, Cond.selects RX3 yX3_couponFor yX3_couponFor]
def wsL_best_r6 : List Cond := [Cond.code yX3_couponFor cX3_couponFor 6 (some .long), Cond.fieldLink RX3 57 "BondDesk$Schedule" "firstYear" "J", Cond.fieldLink RX3 49 "BondDesk$Schedule" "firstDays" "J", Cond.methodLink RX0 85 yX0_isEnd, Cond.instanceMethod yX0_isEnd, Cond.selects RX0 yX0_isEnd yX0_isEnd, Cond.code yX0_isEnd cX0_isEnd 2 (some .boolean), Cond.methodLink RX0 88 yX0_sunkOn, Cond.instanceMethod yX0_sunkOn, Cond.selects RX0 yX0_sunkOn yX0_sunkOn, Cond.code yX0_sunkOn cX0_sunkOn 4 (some .int), Cond.fieldLink RX0 70 "BondDesk$Bond" "sinkFrom" "I", Cond.fieldLink RX0 73 "BondDesk$Bond" "sinkPart" "I", Cond.methodLink RX0 76 Lib.Math.min.name]
def wsL_best : List Cond := .codeWith yL_best cL_best 4 (some .int) [(0, 9, 12, 13)] :: ((wsL_best_r1 ++ (wsL_best_r2 ++ (wsL_best_r3 ++ (wsL_best_r4 ++ (wsL_best_r5 ++ wsL_best_r6))))) ++ wsX40 ++ wsX00 ++ wsX30 ++ (vx_atS RX4 48 "java/lang/IllegalArgumentException" ["java/lang/RuntimeException", "java/lang/Exception"]).filter goodWord)
def wsL_law0_r1 : List Cond := [Cond.classLink RL 8 RX4, Cond.instantiable RX4 8, Cond.initialized RX4, Cond.classLink RL 88 RX5, Cond.instantiable RX5 10, Cond.initialized RX5, Cond.arrayClass .long, Cond.methodLink RL 87 yX4_init, Cond.instanceMethod yX4_init, Cond.code yX4_init cX4_init 1 none, Cond.methodLink RX4 1 objectInit, Cond.instanceMethod objectInit, Cond.code objectInit ⟨#[0xb1]⟩ 1 none, Cond.arrayClass .int, Cond.fieldLink RX4 9 "BondDesk" "holidays" "[I", Cond.classLink RX4 13 RX0, Cond.fieldLink RX4 15 "BondDesk" "bonds" "[LBondDesk$Bond;", Cond.classLink RX4 19 RX2, Cond.instantiable RX2 4, Cond.initialized RX2, Cond.fieldLink RX4 22 "BondDesk" "paid" "LBondDesk$Ledger;", Cond.constant RX4 26 (20260101), Cond.fieldLink RX4 27 "BondDesk" "today" "I", Cond.constantLong RX4 31 (200000000)]
def wsL_law0_r2 : List Cond := [Cond.fieldLink RX4 33 "BondDesk" "cash" "J", Cond.fieldLink RX4 37 "BondDesk" "refinancing" "I", Cond.instanceMethod yX2_init, Cond.code yX2_init cX2_init 1 none, Cond.methodLink RX2 1 objectInit, Cond.methodLink RL 90 yX5_init, Cond.instanceMethod yX5_init, Cond.code yX5_init cX5_init 1 none, Cond.methodLink RX5 1 objectInit, Cond.constant RX5 7 (20260101), Cond.fieldLink RX5 14 "BondDeskModel" "today" "I", Cond.constantLong RX5 18 (200000000), Cond.fieldLink RX5 20 "BondDeskModel" "cash" "J", Cond.fieldLink RX5 24 "BondDeskModel" "rate" "I", Cond.fieldLink RX5 27 "BondDeskModel" "holiday" "[I", Cond.fieldLink RX5 31 "BondDeskModel" "of" "[I", Cond.fieldLink RX5 34 "BondDeskModel" "day" "[I", Cond.fieldLink RX5 37 "BondDeskModel" "paid" "[J", Cond.methodLink RX5 8 yX5_number, Cond.static yX5_number, Cond.code yX5_number cX5_number 4 (some .int), Cond.methodLink RX5 50 yX5_length, Cond.static yX5_length, Cond.code yX5_length cX5_length 2 (some .int)]
def wsL_law0_r3 : List Cond := [Cond.methodLink RL 91 yL_later, Cond.static yL_later, Cond.initialized RL, Cond.codeWith yL_later cL_later 5 (some .int) [(0, 10, 13, 13)], Cond.classLink RL 13 "java/lang/IllegalArgumentException", Cond.methodLink RL 7 yX4_later, Cond.instanceMethod yX4_later, Cond.selects RX4 yX4_later yX4_later, Cond.code yX4_later cX4_later 4 (some .int), Cond.classLink RX4 44 "java/lang/IllegalArgumentException", Cond.initialized "java/lang/IllegalArgumentException", Cond.constant RX4 57 (20661231), Cond.methodLink RX4 40 yX4_requireDate, Cond.static yX4_requireDate, Cond.code yX4_requireDate cX4_requireDate 1 none, Cond.methodLink RX4 84 yX1_isDate, Cond.static yX1_isDate, Cond.initialized RX1, Cond.code yX1_isDate cX1_isDate 3 (some .boolean), Cond.constant RX1 11 (20160101), Cond.constant RX1 12 (20661231), Cond.methodLink RX1 13 yX1_monthOf, Cond.static yX1_monthOf, Cond.code yX1_monthOf cX1_monthOf 1 (some .int)]
def wsL_law0_r4 : List Cond := [Cond.methodLink RX1 17 yX1_dayOf, Cond.static yX1_dayOf, Cond.code yX1_dayOf cX1_dayOf 1 (some .int), Cond.methodLink RX1 20 yX1_yearOf, Cond.static yX1_yearOf, Cond.code yX1_yearOf cX1_yearOf 1 (some .int), Cond.methodLink RX1 23 yX1_monthLength, Cond.static yX1_monthLength, Cond.code yX1_monthLength cX1_monthLength 2 (some .int), Cond.methodLink RX4 51 yX1_dayNumber, Cond.static yX1_dayNumber, Cond.code yX1_dayNumber cX1_dayNumber 5 (some .int), Cond.fieldLink RX1 27 "BondDesk$Dates" "AHEAD" "[I", Cond.methodLink RX4 60 yX1_dateOf, Cond.static yX1_dateOf, Cond.code yX1_dateOf cX1_dateOf 5 (some .int), Cond.methodLink RL 96 yX5_later, Cond.instanceMethod yX5_later, Cond.selects RX5 yX5_later yX5_later, Cond.code yX5_later cX5_later 4 (some .int), Cond.fieldLink RX5 41 "BondDeskModel" "thrown" "I", Cond.constant RX5 45 (20661231), Cond.methodLink RX5 64 yX5_isDate, Cond.static yX5_isDate]
def wsL_law0_r5 : List Cond := [Cond.code yX5_isDate cX5_isDate 2 (some .boolean), Cond.constant RX5 44 (20160101), Cond.methodLink RX5 46 yX5_isIn, Cond.static yX5_isIn, Cond.code yX5_isIn cX5_isIn 3 (some .boolean), Cond.methodLink RX5 67 yX5_no, Cond.instanceMethod yX5_no, Cond.selects RX5 yX5_no yX5_no, Cond.code yX5_no cX5_no 2 (some .int), Cond.methodLink RX5 70 yX5_date, Cond.static yX5_date, Cond.code yX5_date cX5_date 4 (some .int), Cond.methodLink RL 97 yX5_thrown, Cond.instanceMethod yX5_thrown, Cond.selects RX5 yX5_thrown yX5_thrown, Cond.code yX5_thrown cX5_thrown 1 (some .int), Cond.methodLink RL 101 yL_weekday, Cond.static yL_weekday, Cond.codeWith yL_weekday cL_weekday 4 (some .int) [(0, 9, 12, 13)], Cond.methodLink RL 15 yX4_weekday, Cond.instanceMethod yX4_weekday, Cond.selects RX4 yX4_weekday yX4_weekday, Cond.code yX4_weekday cX4_weekday 2 (some .int), Cond.methodLink RX4 63 yX1_dayOfWeek]
def wsL_law0_r6 : List Cond := [Cond.static yX1_dayOfWeek, Cond.code yX1_dayOfWeek cX1_dayOfWeek 1 (some .int), Cond.methodLink RL 104 yX5_weekday_, Cond.instanceMethod yX5_weekday_, Cond.selects RX5 yX5_weekday_ yX5_weekday_, Cond.code yX5_weekday_ cX5_weekday_ 2 (some .int), Cond.methodLink RX5 54 yX5_weekday, Cond.static yX5_weekday, Cond.code yX5_weekday cX5_weekday 2 (some .int), Cond.methodLink RL 105 yL_addHoliday, Cond.static yL_addHoliday, Cond.codeWith yL_addHoliday cL_addHoliday 4 (some .int) [(0, 9, 12, 13), (0, 9, 15, 22)], Cond.classLink RL 22 "java/lang/IllegalStateException", Cond.methodLink RL 19 yX4_addHoliday, Cond.instanceMethod yX4_addHoliday, Cond.selects RX4 yX4_addHoliday yX4_addHoliday, Cond.code yX4_addHoliday cX4_addHoliday 2 (some .int), Cond.classLink RX4 73 "java/lang/IllegalStateException", Cond.initialized "java/lang/IllegalStateException", Cond.fieldLink RX4 70 "BondDesk" "holidayCount" "I", Cond.methodLink RX4 66 yX4_isHoliday, Cond.instanceMethod yX4_isHoliday, Cond.selects RX4 yX4_isHoliday yX4_isHoliday, Cond.code yX4_isHoliday cX4_isHoliday 6 (some .boolean)]
def wsL_law0_r7 : List Cond := [Cond.methodLink RL 107 yX5_addHoliday, Cond.instanceMethod yX5_addHoliday, Cond.selects RX5 yX5_addHoliday yX5_addHoliday, Cond.code yX5_addHoliday cX5_addHoliday 4 (some .int), Cond.fieldLink RX5 57 "BondDeskModel" "holidays" "I", Cond.methodLink RL 108 yL_working, Cond.static yL_working, Cond.codeWith yL_working cL_working 4 (some .int) [(0, 9, 12, 13)], Cond.methodLink RL 24 yX4_working, Cond.instanceMethod yX4_working, Cond.selects RX4 yX4_working yX4_working, Cond.code yX4_working cX4_working 2 (some .int), Cond.constant RX4 78 (20661101), Cond.methodLink RX4 81 yX4_nextWorkingDate, Cond.instanceMethod yX4_nextWorkingDate, Cond.selects RX4 yX4_nextWorkingDate yX4_nextWorkingDate, Cond.code yX4_nextWorkingDate cX4_nextWorkingDate 4 (some .int), Cond.methodLink RX4 89 yX4_isWorkingDay, Cond.instanceMethod yX4_isWorkingDay, Cond.selects RX4 yX4_isWorkingDay yX4_isWorkingDay, Cond.code yX4_isWorkingDay cX4_isWorkingDay 2 (some .boolean), Cond.methodLink RL 110 yX5_working, Cond.instanceMethod yX5_working, Cond.selects RX5 yX5_working yX5_working]
def wsL_law0_r8 : List Cond := [Cond.code yX5_working cX5_working 2 (some .int), Cond.constant RX5 73 (20661101), Cond.methodLink RX5 74 yX5_firstWorking, Cond.instanceMethod yX5_firstWorking, Cond.selects RX5 yX5_firstWorking yX5_firstWorking, Cond.code yX5_firstWorking cX5_firstWorking 3 (some .int), Cond.methodLink RX5 60 yX5_isWorking, Cond.instanceMethod yX5_isWorking, Cond.selects RX5 yX5_isWorking yX5_isWorking, Cond.code yX5_isWorking cX5_isWorking 4 (some .boolean), Cond.methodLink RL 111 yL_addBond, Cond.static yL_addBond, Cond.codeWith yL_addBond cL_addBond 8 (some .int) [(0, 16, 19, 13), (0, 16, 23, 22)], Cond.methodLink RL 27 yX4_addBond, Cond.instanceMethod yX4_addBond, Cond.selects RX4 yX4_addBond yX4_addBond, Cond.code yX4_addBond cX4_addBond 7 (some .int), Cond.constant RX4 111 (20160101), Cond.fieldLink RX4 114 "BondDesk" "bondCount" "I", Cond.instantiable RX0 9, Cond.initialized RX0, Cond.classLink RX4 101 RX3, Cond.instantiable RX3 9, Cond.initialized RX3]
def wsL_law0_r9 : List Cond := [Cond.methodLink RX4 92 yX4_requireLife, Cond.instanceMethod yX4_requireLife, Cond.selects RX4 yX4_requireLife yX4_requireLife, Cond.code yX4_requireLife cX4_requireLife 3 none, Cond.methodLink RX4 96 yX4_requireTerms, Cond.static yX4_requireTerms, Cond.code yX4_requireTerms cX4_requireTerms 3 none, Cond.methodLink RX4 163 yX4_requireRate, Cond.static yX4_requireRate, Cond.code yX4_requireRate cX4_requireRate 1 none, Cond.methodLink RX4 100 yX3_countCoupons, Cond.static yX3_countCoupons, Cond.code yX3_countCoupons cX3_countCoupons 4 (some .int), Cond.methodLink RX3 25 yX3_dateBack, Cond.static yX3_dateBack, Cond.code yX3_dateBack cX3_dateBack 3 (some .int), Cond.methodLink RX3 60 yX1_monthsBack, Cond.static yX1_monthsBack, Cond.code yX1_monthsBack cX1_monthsBack 8 (some .int), Cond.methodLink RX1 34 Lib.Math.min.name, Cond.static Lib.Math.min.name, Cond.initialized "java/lang/Math", Cond.code Lib.Math.min.name Lib.Math.min.code 2 (some .int), Cond.methodLink RX4 108 yX3_dateBack]
def wsL_law0_r10 : List Cond := [Cond.methodLink RX4 119 yX3_init, Cond.instanceMethod yX3_init, Cond.code yX3_init cX3_init 8 none, Cond.methodLink RX3 1 objectInit, Cond.fieldLink RX3 7 "BondDesk$Schedule" "issue" "I", Cond.fieldLink RX3 13 "BondDesk$Schedule" "end" "I", Cond.fieldLink RX3 16 "BondDesk$Schedule" "rate" "I", Cond.fieldLink RX3 19 "BondDesk$Schedule" "perYear" "I", Cond.fieldLink RX3 22 "BondDesk$Schedule" "way" "I", Cond.fieldLink RX3 29 "BondDesk$Schedule" "regularBegin" "I", Cond.methodLink RX3 32 Lib.Math.min.name, Cond.methodLink RX3 38 Lib.Math.max.name, Cond.static Lib.Math.max.name, Cond.code Lib.Math.max.name Lib.Math.max.code 2 (some .int), Cond.fieldLink RX3 41 "BondDesk$Schedule" "dates" "[I", Cond.fieldLink RX3 49 "BondDesk$Schedule" "firstDays" "J", Cond.fieldLink RX3 57 "BondDesk$Schedule" "firstYear" "J", Cond.methodLink RX3 45 yX3_daysCounted, Cond.instanceMethod yX3_daysCounted, Cond.selects RX3 yX3_daysCounted yX3_daysCounted, Cond.code yX3_daysCounted cX3_daysCounted 3 (some .long), Cond.methodLink RX3 74 yX1_daysOf30, Cond.static yX1_daysOf30, Cond.code yX1_daysOf30 cX1_daysOf30 4 (some .int)]
def wsL_law0_r11 : List Cond := [Cond.methodLink RX3 77 yX1_daysBetween, Cond.static yX1_daysBetween, Cond.code yX1_daysBetween cX1_daysBetween 2 (some .int), Cond.methodLink RX1 31 yX1_dayNumber, Cond.methodLink RX3 53 yX3_yearOfPeriod, Cond.instanceMethod yX3_yearOfPeriod, Cond.selects RX3 yX3_yearOfPeriod yX3_yearOfPeriod, Cond.code yX3_yearOfPeriod cX3_yearOfPeriod 3 (some .long), Cond.constantLong RX3 80 (3650000), Cond.constantLong RX3 82 (3600000), Cond.constantLong RX3 65 (10000), Cond.methodLink RX4 122 yX0_init, Cond.instanceMethod yX0_init, Cond.code yX0_init cX0_init 3 none, Cond.methodLink RX0 3 objectInit, Cond.fieldLink RX0 9 "BondDesk$Bond" "schedule" "LBondDesk$Schedule;", Cond.fieldLink RX0 15 "BondDesk$Bond" "factor" "I", Cond.fieldLink RX0 25 "BondDesk$Bond" "next" "I", Cond.methodLink RX0 19 yX3_firstBehind, Cond.instanceMethod yX3_firstBehind, Cond.selects RX3 yX3_firstBehind yX3_firstBehind, Cond.code yX3_firstBehind cX3_firstBehind 3 (some .int), Cond.methodLink RL 114 yX5_addBond, Cond.instanceMethod yX5_addBond]
def wsL_law0_r12 : List Cond := [Cond.selects RX5 yX5_addBond yX5_addBond, Cond.code yX5_addBond cX5_addBond 9 (some .int), Cond.fieldLink RX5 77 "BondDeskModel" "bonds" "I", Cond.methodLink RX5 88 arraycopyName, Cond.native arraycopyName, Cond.static arraycopyName, Cond.initialized "java/lang/System", Cond.methodLink RX5 85 yX5_moved, Cond.static yX5_moved, Cond.code yX5_moved cX5_moved 6 (some .int), Cond.methodLink RX5 80 Lib.Math.min.name, Cond.methodLink RL 115 yL_setSink, Cond.static yL_setSink, Cond.codeWith yL_setSink cL_setSink 6 (some .int) [(0, 12, 15, 35), (0, 12, 19, 13), (0, 12, 23, 22)], Cond.classLink RL 35 "java/lang/IndexOutOfBoundsException", Cond.methodLink RL 31 yX4_setSink, Cond.instanceMethod yX4_setSink, Cond.selects RX4 yX4_setSink yX4_setSink, Cond.code yX4_setSink cX4_setSink 5 (some .int), Cond.fieldLink RX4 135 "BondDesk$Bond" "sinkFrom" "I", Cond.fieldLink RX4 138 "BondDesk$Bond" "sinkPart" "I", Cond.fieldLink RX4 141 "BondDesk$Bond" "schedule" "LBondDesk$Schedule;", Cond.fieldLink RX4 145 "BondDesk$Schedule" "dates" "[I", Cond.methodLink RX4 125 yX4_bondNumbered]
def wsL_law0_r13 : List Cond := [Cond.instanceMethod yX4_bondNumbered, Cond.selects RX4 yX4_bondNumbered yX4_bondNumbered, Cond.code yX4_bondNumbered cX4_bondNumbered 3 (some (.object "BondDesk$Bond")), Cond.classLink RX4 166 "java/lang/IndexOutOfBoundsException", Cond.initialized "java/lang/IndexOutOfBoundsException", Cond.methodLink RX4 131 yX4_requireThere, Cond.static yX4_requireThere, Cond.code yX4_requireThere cX4_requireThere 1 none, Cond.methodLink RX4 201 yX0_isGone, Cond.instanceMethod yX0_isGone, Cond.selects RX0 yX0_isGone yX0_isGone, Cond.code yX0_isGone cX0_isGone 1 (some .boolean), Cond.fieldLink RX0 28 "BondDesk$Bond" "state" "I", Cond.methodLink RX4 148 yX0_factorBehind, Cond.instanceMethod yX0_factorBehind, Cond.selects RX0 yX0_factorBehind yX0_factorBehind, Cond.code yX0_factorBehind cX0_factorBehind 4 (some .int), Cond.methodLink RX0 88 yX0_sunkOn, Cond.instanceMethod yX0_sunkOn, Cond.selects RX0 yX0_sunkOn yX0_sunkOn, Cond.code yX0_sunkOn cX0_sunkOn 4 (some .int), Cond.fieldLink RX0 66 "BondDesk$Schedule" "dates" "[I", Cond.fieldLink RX0 70 "BondDesk$Bond" "sinkFrom" "I", Cond.fieldLink RX0 73 "BondDesk$Bond" "sinkPart" "I"]
def wsL_law0_r14 : List Cond := [Cond.methodLink RX0 76 Lib.Math.min.name, Cond.methodLink RL 118 yX5_setSink, Cond.instanceMethod yX5_setSink, Cond.selects RX5 yX5_setSink yX5_setSink, Cond.code yX5_setSink cX5_setSink 4 (some .int), Cond.methodLink RX5 107 yX5_isBond, Cond.instanceMethod yX5_isBond, Cond.selects RX5 yX5_isBond yX5_isBond, Cond.code yX5_isBond cX5_isBond 2 (some .boolean), Cond.methodLink RX5 110 yX5_isThere, Cond.instanceMethod yX5_isThere, Cond.selects RX5 yX5_isThere yX5_isThere, Cond.code yX5_isThere cX5_isThere 2 (some .boolean), Cond.methodLink RX5 94 yX5_own, Cond.instanceMethod yX5_own, Cond.selects RX5 yX5_own yX5_own, Cond.code yX5_own cX5_own 3 (some .int), Cond.methodLink RX5 113 yX5_leftBehind, Cond.instanceMethod yX5_leftBehind, Cond.selects RX5 yX5_leftBehind yX5_leftBehind, Cond.code yX5_leftBehind cX5_leftBehind 5 (some .int), Cond.methodLink RX5 104 Lib.Math.max.name, Cond.methodLink RX5 100 yX5_isSunk, Cond.instanceMethod yX5_isSunk]
def wsL_law0_r15 : List Cond := [Cond.selects RX5 yX5_isSunk yX5_isSunk, Cond.code yX5_isSunk cX5_isSunk 3 (some .boolean), Cond.methodLink RX5 97 yX5_couponDay, Cond.instanceMethod yX5_couponDay, Cond.selects RX5 yX5_couponDay yX5_couponDay, Cond.code yX5_couponDay cX5_couponDay 3 (some .int), Cond.methodLink RL 119 yL_setCall, Cond.static yL_setCall, Cond.codeWith yL_setCall cL_setCall 6 (some .int) [(0, 12, 15, 35), (0, 12, 19, 13), (0, 12, 23, 22)], Cond.methodLink RL 37 yX4_setCall, Cond.instanceMethod yX4_setCall, Cond.selects RX4 yX4_setCall yX4_setCall, Cond.code yX4_setCall cX4_setCall 5 (some .int), Cond.fieldLink RX4 153 "BondDesk$Bond" "callFrom" "I", Cond.fieldLink RX4 156 "BondDesk$Bond" "callPrice" "I", Cond.methodLink RX4 159 yX0_firstCall, Cond.instanceMethod yX0_firstCall, Cond.selects RX0 yX0_firstCall yX0_firstCall, Cond.code yX0_firstCall cX0_firstCall 2 (some .int), Cond.methodLink RX0 124 yX0_isCallDate, Cond.instanceMethod yX0_isCallDate, Cond.selects RX0 yX0_isCallDate yX0_isCallDate, Cond.code yX0_isCallDate cX0_isCallDate 2 (some .boolean), Cond.fieldLink RX0 118 "BondDesk$Bond" "callPrice" "I"]
def wsL_law0_r16 : List Cond := [Cond.fieldLink RX0 121 "BondDesk$Bond" "callFrom" "I", Cond.methodLink RL 121 yX5_setCall, Cond.instanceMethod yX5_setCall, Cond.selects RX5 yX5_setCall yX5_setCall, Cond.code yX5_setCall cX5_setCall 4 (some .int), Cond.methodLink RX5 119 yX5_firstCall, Cond.instanceMethod yX5_firstCall, Cond.selects RX5 yX5_firstCall yX5_firstCall, Cond.code yX5_firstCall cX5_firstCall 3 (some .int), Cond.methodLink RX5 116 yX5_isCalled, Cond.instanceMethod yX5_isCalled, Cond.selects RX5 yX5_isCalled yX5_isCalled, Cond.code yX5_isCalled cX5_isCalled 3 (some .boolean), Cond.methodLink RL 122 yL_setRate, Cond.static yL_setRate, Cond.codeWith yL_setRate cL_setRate 4 (some .int) [(0, 9, 12, 13)], Cond.methodLink RL 40 yX4_setRate, Cond.instanceMethod yX4_setRate, Cond.selects RX4 yX4_setRate yX4_setRate, Cond.code yX4_setRate cX4_setRate 3 (some .int), Cond.methodLink RL 124 yX5_setRate, Cond.instanceMethod yX5_setRate, Cond.selects RX5 yX5_setRate yX5_setRate, Cond.code yX5_setRate cX5_setRate 3 (some .int)]
def wsL_law0_r17 : List Cond := [Cond.methodLink RL 125 yL_bond, Cond.static yL_bond, Cond.codeWith yL_bond cL_bond 5 (some .int) [(0, 10, 13, 35)], Cond.methodLink RL 43 yX4_bond, Cond.instanceMethod yX4_bond, Cond.selects RX4 yX4_bond yX4_bond, Cond.code yX4_bond cX4_bond 4 (some .int), Cond.methodLink RX4 171 yX0_tell, Cond.instanceMethod yX0_tell, Cond.selects RX0 yX0_tell yX0_tell, Cond.code yX0_tell cX0_tell 2 (some .int), Cond.fieldLink RX0 31 "BondDesk$Schedule" "issue" "I", Cond.fieldLink RX0 42 "BondDesk$Schedule" "end" "I", Cond.fieldLink RX0 163 "BondDesk$Schedule" "rate" "I", Cond.fieldLink RX0 91 "BondDesk$Schedule" "perYear" "I", Cond.fieldLink RX0 166 "BondDesk$Schedule" "way" "I", Cond.fieldLink RX0 147 "BondDesk$Bond" "pieces" "I", Cond.methodLink RX0 58 yX0_face, Cond.instanceMethod yX0_face, Cond.selects RX0 yX0_face yX0_face, Cond.code yX0_face cX0_face 1 (some .long), Cond.methodLink RX0 54 yX0_faceOf, Cond.static yX0_faceOf, Cond.code yX0_faceOf cX0_faceOf 1 (some .long)]
def wsL_law0_r18 : List Cond := [Cond.constantLong RX0 50 (100000), Cond.constantLong RX0 52 (10000), Cond.methodLink RX0 34 yX0_isGone, Cond.methodLink RL 127 yX5_bond, Cond.instanceMethod yX5_bond, Cond.selects RX5 yX5_bond yX5_bond, Cond.code yX5_bond cX5_bond 3 (some .int), Cond.methodLink RX5 122 yX5_told, Cond.instanceMethod yX5_told, Cond.selects RX5 yX5_told yX5_told, Cond.code yX5_told cX5_told 3 (some .int), Cond.methodLink RL 128 yL_coupon, Cond.static yL_coupon, Cond.codeWith yL_coupon cL_coupon 6 (some .int) [(0, 12, 15, 35)], Cond.methodLink RL 46 yX4_coupon, Cond.instanceMethod yX4_coupon, Cond.selects RX4 yX4_coupon yX4_coupon, Cond.code yX4_coupon cX4_coupon 5 (some .int), Cond.constantLong RX4 179 (100000), Cond.methodLink RX4 176 yX3_beginOf, Cond.instanceMethod yX3_beginOf, Cond.selects RX3 yX3_beginOf yX3_beginOf, Cond.code yX3_beginOf cX3_beginOf 2 (some .int), Cond.methodLink RX4 181 yX3_couponFor]
def wsL_law0_r19 : List Cond := [Cond.instanceMethod yX3_couponFor, Cond.selects RX3 yX3_couponFor yX3_couponFor, Cond.code yX3_couponFor cX3_couponFor 6 (some .long), Cond.methodLink RL 130 yX5_coupon_, Cond.instanceMethod yX5_coupon_, Cond.selects RX5 yX5_coupon_ yX5_coupon_, Cond.code yX5_coupon_ cX5_coupon_ 4 (some .int), Cond.methodLink RX5 147 yX5_couponTold, Cond.instanceMethod yX5_couponTold, Cond.selects RX5 yX5_couponTold yX5_couponTold, Cond.code yX5_couponTold cX5_couponTold 4 (some .int), Cond.constantLong RX5 141 (100000), Cond.methodLink RX5 138 yX5_beginning, Cond.instanceMethod yX5_beginning, Cond.selects RX5 yX5_beginning yX5_beginning, Cond.code yX5_beginning cX5_beginning 3 (some .int), Cond.methodLink RX5 143 yX5_coupon, Cond.instanceMethod yX5_coupon, Cond.selects RX5 yX5_coupon yX5_coupon, Cond.code yX5_coupon cX5_coupon 5 (some .int), Cond.constantLong RX5 132 (10000), Cond.methodLink RX5 134 yX5_interest, Cond.instanceMethod yX5_interest, Cond.selects RX5 yX5_interest yX5_interest]
def wsL_law0_r20 : List Cond := [Cond.code yX5_interest cX5_interest 8 (some .int), Cond.constantLong RX5 128 (3600000), Cond.constantLong RX5 130 (3650000), Cond.methodLink RX5 125 yX5_thirty, Cond.static yX5_thirty, Cond.code yX5_thirty cX5_thirty 4 (some .int), Cond.methodLink RL 131 yL_accrued, Cond.static yL_accrued, Cond.codeWith yL_accrued cL_accrued 5 (some .int) [(0, 10, 13, 35), (0, 10, 17, 13)], Cond.methodLink RL 49 yX4_accrued, Cond.instanceMethod yX4_accrued, Cond.selects RX4 yX4_accrued yX4_accrued, Cond.code yX4_accrued cX4_accrued 4 (some .int), Cond.methodLink RX4 187 yX0_accruedOn, Cond.instanceMethod yX0_accruedOn, Cond.selects RX0 yX0_accruedOn yX0_accruedOn, Cond.code yX0_accruedOn cX0_accruedOn 2 (some .long), Cond.methodLink RX0 62 yX3_accruedFor, Cond.instanceMethod yX3_accruedFor, Cond.selects RX3 yX3_accruedFor yX3_accruedFor, Cond.code yX3_accruedFor cX3_accruedFor 7 (some .long), Cond.methodLink RX3 67 yX3_firstBehind, Cond.methodLink RX3 71 yX3_beginOf, Cond.methodLink RL 133 yX5_accrued]
def wsL_law0_r21 : List Cond := [Cond.instanceMethod yX5_accrued, Cond.selects RX5 yX5_accrued yX5_accrued, Cond.code yX5_accrued cX5_accrued 3 (some .int), Cond.methodLink RX5 154 yX5_accruedOn, Cond.instanceMethod yX5_accruedOn, Cond.selects RX5 yX5_accruedOn yX5_accruedOn, Cond.code yX5_accruedOn cX5_accruedOn 4 (some .int), Cond.methodLink RX5 151 yX5_behind, Cond.instanceMethod yX5_behind, Cond.selects RX5 yX5_behind yX5_behind, Cond.code yX5_behind cX5_behind 4 (some .int), Cond.methodLink RL 134 yL_worth, Cond.static yL_worth, Cond.codeWith yL_worth cL_worth 5 (some .int) [(0, 10, 13, 35), (0, 10, 17, 13)], Cond.methodLink RL 52 yX4_worth, Cond.instanceMethod yX4_worth, Cond.selects RX4 yX4_worth yX4_worth, Cond.code yX4_worth cX4_worth 4 (some .int), Cond.fieldLink RX4 212 "BondDesk$Bond" "factor" "I", Cond.methodLink RX4 209 yX4_requireYield, Cond.static yX4_requireYield, Cond.code yX4_requireYield cX4_requireYield 1 none, Cond.methodLink RX4 215 yX0_worthAt, Cond.instanceMethod yX0_worthAt]
def wsL_law0_r22 : List Cond := [Cond.selects RX0 yX0_worthAt yX0_worthAt, Cond.code yX0_worthAt cX0_worthAt 14 (some .long), Cond.constantLong RX0 94 (3650000), Cond.constantLong RX0 99 (3650000000000000), Cond.constantLong RX0 105 (1000000000), Cond.methodLink RX0 96 yX1_daysBetween, Cond.methodLink RX0 101 yX0_paymentOn, Cond.instanceMethod yX0_paymentOn, Cond.selects RX0 yX0_paymentOn yX0_paymentOn, Cond.code yX0_paymentOn cX0_paymentOn 3 (some .long), Cond.methodLink RX0 82 yX3_couponFor, Cond.methodLink RX0 85 yX0_isEnd, Cond.instanceMethod yX0_isEnd, Cond.selects RX0 yX0_isEnd yX0_isEnd, Cond.code yX0_isEnd cX0_isEnd 2 (some .boolean), Cond.methodLink RL 136 yX5_worth, Cond.instanceMethod yX5_worth, Cond.selects RX5 yX5_worth yX5_worth, Cond.code yX5_worth cX5_worth 3 (some .int), Cond.methodLink RX5 167 yX5_worthNow, Cond.instanceMethod yX5_worthNow, Cond.selects RX5 yX5_worthNow yX5_worthNow, Cond.code yX5_worthNow cX5_worthNow 3 (some .long), Cond.methodLink RX5 163 yX5_worthOn]
def wsL_law0_r23 : List Cond := [Cond.instanceMethod yX5_worthOn, Cond.selects RX5 yX5_worthOn yX5_worthOn, Cond.code yX5_worthOn cX5_worthOn 15 (some .long), Cond.constantLong RX5 157 (3650000000000000), Cond.constantLong RX5 159 (10), Cond.constantLong RX5 161 (1000000000), Cond.methodLink RL 137 yL_yields, Cond.static yL_yields, Cond.codeWith yL_yields cL_yields 5 (some .int) [(0, 10, 13, 35), (0, 10, 17, 13)], Cond.methodLink RL 55 yX4_yields, Cond.instanceMethod yX4_yields, Cond.selects RX4 yX4_yields yX4_yields, Cond.code yX4_yields cX4_yields 4 (some .int), Cond.methodLink RX4 219 yX4_requirePrice, Cond.static yX4_requirePrice, Cond.code yX4_requirePrice cX4_requirePrice 1 none, Cond.methodLink RX4 222 yX0_yieldAt, Cond.instanceMethod yX0_yieldAt, Cond.selects RX0 yX0_yieldAt yX0_yieldAt, Cond.code yX0_yieldAt cX0_yieldAt 3 (some .int), Cond.methodLink RX0 111 yX0_fullPrice, Cond.instanceMethod yX0_fullPrice, Cond.selects RX0 yX0_fullPrice yX0_fullPrice, Cond.code yX0_fullPrice cX0_fullPrice 3 (some .long)]
def wsL_law0_r24 : List Cond := [Cond.methodLink RX0 114 yX0_greatestRate, Cond.instanceMethod yX0_greatestRate, Cond.selects RX0 yX0_greatestRate yX0_greatestRate, Cond.code yX0_greatestRate cX0_greatestRate 8 (some .int), Cond.methodLink RX0 107 yX0_worthAt, Cond.methodLink RL 139 yX5_yields, Cond.instanceMethod yX5_yields, Cond.selects RX5 yX5_yields yX5_yields, Cond.code yX5_yields cX5_yields 3 (some .int), Cond.methodLink RX5 174 yX5_yielded, Cond.instanceMethod yX5_yielded, Cond.selects RX5 yX5_yielded yX5_yielded, Cond.code yX5_yielded cX5_yielded 8 (some .int), Cond.methodLink RX5 171 yX5_fullPrice, Cond.instanceMethod yX5_fullPrice, Cond.selects RX5 yX5_fullPrice yX5_fullPrice, Cond.code yX5_fullPrice cX5_fullPrice 3 (some .long), Cond.methodLink RL 140 yL_moves, Cond.static yL_moves, Cond.codeWith yL_moves cL_moves 5 (some .int) [(0, 10, 13, 35), (0, 10, 17, 13)], Cond.methodLink RL 58 yX4_moves, Cond.instanceMethod yX4_moves, Cond.selects RX4 yX4_moves yX4_moves, Cond.code yX4_moves cX4_moves 4 (some .int)]
def wsL_law0_r25 : List Cond := [Cond.methodLink RL 142 yX5_moves, Cond.instanceMethod yX5_moves, Cond.selects RX5 yX5_moves yX5_moves, Cond.code yX5_moves cX5_moves 3 (some .int), Cond.methodLink RL 143 yL_callsAt, Cond.static yL_callsAt, Cond.codeWith yL_callsAt cL_callsAt 4 (some .int) [(0, 9, 12, 35)], Cond.methodLink RL 61 yX4_callsAt, Cond.instanceMethod yX4_callsAt, Cond.selects RX4 yX4_callsAt yX4_callsAt, Cond.code yX4_callsAt cX4_callsAt 2 (some .int), Cond.methodLink RX4 226 yX0_rateOfCall, Cond.instanceMethod yX0_rateOfCall, Cond.selects RX0 yX0_rateOfCall yX0_rateOfCall, Cond.code yX0_rateOfCall cX0_rateOfCall 3 (some .int), Cond.methodLink RX0 127 yX0_firstCall, Cond.methodLink RX0 131 yX0_factorBehind, Cond.methodLink RX0 134 yX0_callPayment, Cond.instanceMethod yX0_callPayment, Cond.selects RX0 yX0_callPayment yX0_callPayment, Cond.code yX0_callPayment cX0_callPayment 2 (some .long), Cond.methodLink RL 145 yX5_callsAt, Cond.instanceMethod yX5_callsAt, Cond.selects RX5 yX5_callsAt yX5_callsAt]
def wsL_law0_r26 : List Cond := [Cond.code yX5_callsAt cX5_callsAt 7 (some .int), Cond.methodLink RX5 177 yX5_callPaid, Cond.instanceMethod yX5_callPaid, Cond.selects RX5 yX5_callPaid yX5_callPaid, Cond.code yX5_callPaid cX5_callPaid 3 (some .long), Cond.methodLink RL 146 yL_buy, Cond.static yL_buy, Cond.codeWith yL_buy cL_buy 6 (some .int) [(0, 11, 14, 35), (0, 11, 18, 13), (0, 11, 22, 22)], Cond.methodLink RL 64 yX4_buy, Cond.instanceMethod yX4_buy, Cond.selects RX4 yX4_buy yX4_buy, Cond.code yX4_buy cX4_buy 7 (some .long), Cond.fieldLink RX4 244 "BondDesk$Bond" "pieces" "I", Cond.methodLink RX4 233 yX4_requirePieces, Cond.static yX4_requirePieces, Cond.code yX4_requirePieces cX4_requirePieces 1 none, Cond.methodLink RX4 236 yX4_requireWorkingDay, Cond.instanceMethod yX4_requireWorkingDay, Cond.selects RX4 yX4_requireWorkingDay yX4_requireWorkingDay, Cond.code yX4_requireWorkingDay cX4_requireWorkingDay 1 none, Cond.methodLink RX4 239 yX0_isIssued, Cond.instanceMethod yX0_isIssued, Cond.selects RX0 yX0_isIssued yX0_isIssued, Cond.code yX0_isIssued cX0_isIssued 2 (some .boolean)]
def wsL_law0_r27 : List Cond := [Cond.methodLink RX4 249 yX0_fullPrice, Cond.methodLink RL 148 yX5_buy, Cond.instanceMethod yX5_buy, Cond.selects RX5 yX5_buy yX5_buy, Cond.code yX5_buy cX5_buy 6 (some .long), Cond.methodLink RL 149 yL_sell, Cond.static yL_sell, Cond.codeWith yL_sell cL_sell 6 (some .int) [(0, 11, 14, 35), (0, 11, 18, 13), (0, 11, 22, 22)], Cond.methodLink RL 68 yX4_sell, Cond.instanceMethod yX4_sell, Cond.selects RX4 yX4_sell yX4_sell, Cond.code yX4_sell cX4_sell 7 (some .long), Cond.methodLink RL 151 yX5_sell, Cond.instanceMethod yX5_sell, Cond.selects RX5 yX5_sell yX5_sell, Cond.code yX5_sell cX5_sell 6 (some .long), Cond.methodLink RL 152 yL_pass, Cond.static yL_pass, Cond.codeWith yL_pass cL_pass 4 (some .int) [(0, 8, 11, 13), (0, 8, 14, 22)], Cond.methodLink RL 71 yX4_pass, Cond.instanceMethod yX4_pass, Cond.selects RX4 yX4_pass yX4_pass, Cond.code yX4_pass cX4_pass 7 (some .long), Cond.methodLink RX4 261 yX2_all]
def wsL_law0_r28 : List Cond := [Cond.instanceMethod yX2_all, Cond.selects RX2 yX2_all yX2_all, Cond.code yX2_all cX2_all 1 (some .long), Cond.fieldLink RX2 7 "BondDesk$Ledger" "coupons" "J", Cond.fieldLink RX2 13 "BondDesk$Ledger" "sinking" "J", Cond.fieldLink RX2 16 "BondDesk$Ledger" "calls" "J", Cond.fieldLink RX2 19 "BondDesk$Ledger" "ends" "J", Cond.methodLink RX4 265 yX4_lookAtBonds, Cond.instanceMethod yX4_lookAtBonds, Cond.selects RX4 yX4_lookAtBonds yX4_lookAtBonds, Cond.code yX4_lookAtBonds cX4_lookAtBonds 5 none, Cond.methodLink RX4 316 yX0_lookUpTo, Cond.instanceMethod yX0_lookUpTo, Cond.selects RX0 yX0_lookUpTo yX0_lookUpTo, Cond.code yX0_lookUpTo cX0_lookUpTo 5 none, Cond.methodLink RX0 137 yX0_lookAt, Cond.instanceMethod yX0_lookAt, Cond.selects RX0 yX0_lookAt yX0_lookAt, Cond.code yX0_lookAt cX0_lookAt 5 none, Cond.fieldLink RX0 141 "BondDesk$Ledger" "coupons" "J", Cond.fieldLink RX0 150 "BondDesk$Ledger" "ends" "J", Cond.fieldLink RX0 157 "BondDesk$Ledger" "sinking" "J", Cond.fieldLink RX0 160 "BondDesk$Ledger" "calls" "J", Cond.methodLink RX0 153 yX0_leave]
def wsL_law0_r29 : List Cond := [Cond.instanceMethod yX0_leave, Cond.selects RX0 yX0_leave yX0_leave, Cond.code yX0_leave cX0_leave 2 none, Cond.methodLink RL 154 yX5_pass, Cond.instanceMethod yX5_pass, Cond.selects RX5 yX5_pass yX5_pass, Cond.code yX5_pass cX5_pass 6 (some .long), Cond.methodLink RX5 188 yX5_look, Cond.instanceMethod yX5_look, Cond.selects RX5 yX5_look yX5_look, Cond.code yX5_look cX5_look 6 (some .long), Cond.methodLink RX5 180 yX5_pay, Cond.instanceMethod yX5_pay, Cond.selects RX5 yX5_pay yX5_pay, Cond.code yX5_pay cX5_pay 7 (some .long), Cond.methodLink RX5 184 yX5_leave, Cond.instanceMethod yX5_leave, Cond.selects RX5 yX5_leave yX5_leave, Cond.code yX5_leave cX5_leave 3 none, Cond.methodLink RL 155 yL_count, Cond.static yL_count, Cond.codeWith yL_count cL_count 4 (some .int) [(0, 8, 11, 35)], Cond.methodLink RL 75 yX4_count, Cond.instanceMethod yX4_count]
def wsL_law0_r30 : List Cond := [Cond.selects RX4 yX4_count yX4_count, Cond.code yX4_count cX4_count 2 (some .long), Cond.methodLink RX4 270 yX4_tell, Cond.instanceMethod yX4_tell, Cond.selects RX4 yX4_tell yX4_tell, Cond.code yX4_tell cX4_tell 2 (some .long), Cond.fieldLink RX4 332 "BondDesk$Ledger" "coupons" "J", Cond.fieldLink RX4 335 "BondDesk$Ledger" "sinking" "J", Cond.fieldLink RX4 338 "BondDesk$Ledger" "calls" "J", Cond.fieldLink RX4 341 "BondDesk$Ledger" "ends" "J", Cond.methodLink RX4 326 yX4_bondsThere, Cond.instanceMethod yX4_bondsThere, Cond.selects RX4 yX4_bondsThere yX4_bondsThere, Cond.code yX4_bondsThere cX4_bondsThere 6 (some .int), Cond.methodLink RX4 329 yX4_piecesHeld, Cond.instanceMethod yX4_piecesHeld, Cond.selects RX4 yX4_piecesHeld yX4_piecesHeld, Cond.code yX4_piecesHeld cX4_piecesHeld 6 (some .int), Cond.methodLink RX4 344 yX4_worthHeld, Cond.instanceMethod yX4_worthHeld, Cond.selects RX4 yX4_worthHeld yX4_worthHeld, Cond.code yX4_worthHeld cX4_worthHeld 7 (some .long), Cond.methodLink RL 157 yX5_count, Cond.instanceMethod yX5_count]
def wsL_law0_r31 : List Cond := [Cond.selects RX5 yX5_count yX5_count, Cond.code yX5_count cX5_count 2 (some .long), Cond.methodLink RX5 192 yX5_counted, Cond.instanceMethod yX5_counted, Cond.selects RX5 yX5_counted yX5_counted, Cond.code yX5_counted cX5_counted 9 (some .long), Cond.methodLink RL 158 yL_paysIn, Cond.static yL_paysIn, Cond.codeWith yL_paysIn cL_paysIn 4 (some .int) [(0, 8, 11, 13)], Cond.methodLink RL 78 yX4_paysIn, Cond.instanceMethod yX4_paysIn, Cond.selects RX4 yX4_paysIn yX4_paysIn, Cond.code yX4_paysIn cX4_paysIn 8 (some .long), Cond.methodLink RX4 272 yX4_requireYear, Cond.static yX4_requireYear, Cond.code yX4_requireYear cX4_requireYear 1 none, Cond.methodLink RX4 275 yX0_paymentsIn, Cond.instanceMethod yX0_paymentsIn, Cond.selects RX0 yX0_paymentsIn yX0_paymentsIn, Cond.code yX0_paymentsIn cX0_paymentsIn 7 (some .long), Cond.methodLink RX0 45 yX1_yearOf, Cond.methodLink RL 160 yX5_paysIn, Cond.instanceMethod yX5_paysIn, Cond.selects RX5 yX5_paysIn yX5_paysIn]
def wsL_law0_r32 : List Cond := [Cond.code yX5_paysIn cX5_paysIn 8 (some .long), Cond.methodLink RL 161 yL_ladder, Cond.static yL_ladder, Cond.codeWith yL_ladder cL_ladder 5 (some .int) [(0, 10, 13, 13)], Cond.methodLink RL 81 yX4_ladder, Cond.instanceMethod yX4_ladder, Cond.selects RX4 yX4_ladder yX4_ladder, Cond.code yX4_ladder cX4_ladder 8 (some .int), Cond.constantLong RX4 283 (1000000), Cond.methodLink RX4 285 Lib.MathLoose.min_long.x, Cond.static Lib.MathLoose.min_long.x, Cond.code Lib.MathLoose.min_long.x Lib.MathLoose.min_long.code 4 (some .long), Cond.methodLink RX4 280 yX4_leastWorth, Cond.instanceMethod yX4_leastWorth, Cond.selects RX4 yX4_leastWorth yX4_leastWorth, Cond.code yX4_leastWorth cX4_leastWorth 10 (some .long), Cond.constantLong RX4 320 (-1), Cond.methodLink RX4 322 yX0_isRung, Cond.instanceMethod yX0_isRung, Cond.selects RX0 yX0_isRung yX0_isRung, Cond.code yX0_isRung cX0_isRung 3 (some .boolean), Cond.methodLink RX0 38 yX0_isIssued, Cond.methodLink RL 163 yX5_ladder, Cond.instanceMethod yX5_ladder]
def wsL_law0_r33 : List Cond := [Cond.selects RX5 yX5_ladder yX5_ladder, Cond.code yX5_ladder cX5_ladder 11 (some .int), Cond.constantLong RX5 195 (-1), Cond.constantLong RX5 197 (1000000), Cond.methodLink RX5 199 Lib.MathLoose.min_long.x, Cond.methodLink RL 164 yL_best, Cond.static yL_best, Cond.codeWith yL_best cL_best 4 (some .int) [(0, 9, 12, 13)], Cond.methodLink RL 84 yX4_best, Cond.instanceMethod yX4_best, Cond.selects RX4 yX4_best yX4_best, Cond.code yX4_best cX4_best 7 (some .int), Cond.methodLink RL 166 yX5_best, Cond.instanceMethod yX5_best, Cond.selects RX5 yX5_best yX5_best, Cond.code yX5_best cX5_best 6 (some .int), Cond.methodLink RL 167 yX4_years, Cond.instanceMethod yX4_years, Cond.selects RX4 yX4_years yX4_years, Cond.code yX4_years cX4_years 11 (some .double), Cond.fieldLink RX4 294 "BondDesk$Schedule" "end" "I", Cond.constantDouble RX4 300 (4645128764097822720), Cond.methodLink RX4 291 yX0_face, Cond.methodLink RX4 297 yX1_daysBetween]
def wsL_law0_r34 : List Cond := [Cond.methodLink RL 171 yX5_years, Cond.instanceMethod yX5_years, Cond.selects RX5 yX5_years yX5_years, Cond.code yX5_years cX5_years 8 (some .double), Cond.constantDouble RX5 202 (4645128764097822720), Cond.methodLink RL 172 yX4_digest, Cond.instanceMethod yX4_digest, Cond.selects RX4 yX4_digest yX4_digest, Cond.code yX4_digest cX4_digest 7 (some .long), Cond.constantLong RX4 302 (647), Cond.constantLong RX4 304 (31), Cond.methodLink RX4 306 yX0_addTo, Cond.instanceMethod yX0_addTo, Cond.selects RX0 yX0_addTo yX0_addTo, Cond.code yX0_addTo cX0_addTo 7 (some .long), Cond.constantLong RX0 169 (31), Cond.methodLink RX0 171 yX0_tell, Cond.methodLink RX0 174 yX0_accruedOn, Cond.methodLink RL 176 yX5_digest, Cond.instanceMethod yX5_digest, Cond.selects RX5 yX5_digest yX5_digest, Cond.code yX5_digest cX5_digest 5 (some .long), Cond.constantLong RX5 204 (647), Cond.constantLong RX5 206 (31)]
def wsL_law0 : List Cond := (wsL_law0_r1 ++ (wsL_law0_r2 ++ (wsL_law0_r3 ++ (wsL_law0_r4 ++ (wsL_law0_r5 ++ (wsL_law0_r6 ++ (wsL_law0_r7 ++ (wsL_law0_r8 ++ (wsL_law0_r9 ++ (wsL_law0_r10 ++ (wsL_law0_r11 ++ (wsL_law0_r12 ++ (wsL_law0_r13 ++ (wsL_law0_r14 ++ (wsL_law0_r15 ++ (wsL_law0_r16 ++ (wsL_law0_r17 ++ (wsL_law0_r18 ++ (wsL_law0_r19 ++ (wsL_law0_r20 ++ (wsL_law0_r21 ++ (wsL_law0_r22 ++ (wsL_law0_r23 ++ (wsL_law0_r24 ++ (wsL_law0_r25 ++ (wsL_law0_r26 ++ (wsL_law0_r27 ++ (wsL_law0_r28 ++ (wsL_law0_r29 ++ (wsL_law0_r30 ++ (wsL_law0_r31 ++ (wsL_law0_r32 ++ (wsL_law0_r33 ++ wsL_law0_r34))))))))))))))))))))))))))))))))) ++ wsX40 ++ wsX50 ++ wsX20 ++ wsX00 ++ wsX30 ++ ([] : List Cond)
def wsL_law : List Cond := wsL_law0 ++ (vx_atS RX4 48 "java/lang/IllegalArgumentException" ["java/lang/RuntimeException", "java/lang/Exception"]).filter goodWord ++ (vx_atS RX4 77 "java/lang/IllegalStateException" ["java/lang/RuntimeException", "java/lang/Exception"]).filter goodWord ++ (vx_atS RX4 170 "java/lang/IndexOutOfBoundsException" ["java/lang/RuntimeException", "java/lang/Exception"]).filter goodWord
abbrev vwCl : List vw_C := [(RX0, TX0, 9), (RX2, TX2, 4), (RX3, TX3, 9), (RX4, TX4, 8), (RX5, TX5, 10)]
end
section
set_option maxRecDepth 20000 in
theorem ggX0_init_X3_firstBehind : GoodIn wsX0_init wsX3_firstBehind := goodIn_r _ [11, 12, 22, 23, 24, 25, 26, 27, 28, 29, 30] (by decide +kernel) (by decide +kernel)
set_option maxRecDepth 20000 in
theorem gX0_init_X3_firstBehind : GoodIn wsX0_init (wsV RX0 19 RX3 yX3_firstBehind wsX3_firstBehind) := goodIn_app (goodIn_of _ (by decide +kernel)) ggX0_init_X3_firstBehind
theorem dX0_init_0 : decode cX0_init 0 = .ok (.aload_n 0, 1) := by decide +kernel
theorem dX0_init_1 : decode cX0_init 1 = .ok (.invokespecial 3, 3) := by decide +kernel
theorem dX0_init_4 : decode cX0_init 4 = .ok (.aload_n 0, 1) := by decide +kernel
theorem dX0_init_5 : decode cX0_init 5 = .ok (.aload_n 1, 1) := by decide +kernel
theorem dX0_init_6 : decode cX0_init 6 = .ok (.putfield 9, 3) := by decide +kernel
theorem dX0_init_9 : decode cX0_init 9 = .ok (.aload_n 0, 1) := by decide +kernel
theorem dX0_init_10 : decode cX0_init 10 = .ok (.sipush 10000, 3) := by decide +kernel
theorem dX0_init_13 : decode cX0_init 13 = .ok (.putfield 15, 3) := by decide +kernel
theorem dX0_init_16 : decode cX0_init 16 = .ok (.aload_n 0, 1) := by decide +kernel
theorem dX0_init_17 : decode cX0_init 17 = .ok (.aload_n 1, 1) := by decide +kernel
theorem dX0_init_18 : decode cX0_init 18 = .ok (.iload_n 2, 1) := by decide +kernel
theorem dX0_init_19 : decode cX0_init 19 = .ok (.invokevirtual 19, 3) := by decide +kernel
theorem dX0_init_22 : decode cX0_init 22 = .ok (.putfield 25, 3) := by decide +kernel
theorem dX0_init_25 : decode cX0_init 25 = .ok (.return_, 1) := by decide +kernel
theorem dX0_isGone_0 : decode cX0_isGone 0 = .ok (.aload_n 0, 1) := by decide +kernel
theorem dX0_isGone_1 : decode cX0_isGone 1 = .ok (.getfield 28, 3) := by decide +kernel
theorem dX0_isGone_4 : decode cX0_isGone 4 = .ok (.ifCond .eq 7, 3) := by decide +kernel
theorem dX0_isGone_7 : decode cX0_isGone 7 = .ok (.iconst 1, 1) := by decide +kernel
theorem dX0_isGone_8 : decode cX0_isGone 8 = .ok (.goto 4, 3) := by decide +kernel
theorem dX0_isGone_11 : decode cX0_isGone 11 = .ok (.iconst 0, 1) := by decide +kernel
theorem dX0_isGone_12 : decode cX0_isGone 12 = .ok (.ireturn, 1) := by decide +kernel
theorem dX0_isIssued_0 : decode cX0_isIssued 0 = .ok (.aload_n 0, 1) := by decide +kernel
theorem dX0_isIssued_1 : decode cX0_isIssued 1 = .ok (.getfield 9, 3) := by decide +kernel
theorem dX0_isIssued_4 : decode cX0_isIssued 4 = .ok (.getfield 31, 3) := by decide +kernel
theorem dX0_isIssued_7 : decode cX0_isIssued 7 = .ok (.iload_n 1, 1) := by decide +kernel
theorem dX0_isIssued_8 : decode cX0_isIssued 8 = .ok (.if_icmp .gt 7, 3) := by decide +kernel
theorem dX0_isIssued_11 : decode cX0_isIssued 11 = .ok (.iconst 1, 1) := by decide +kernel
theorem dX0_isIssued_12 : decode cX0_isIssued 12 = .ok (.goto 4, 3) := by decide +kernel
theorem dX0_isIssued_15 : decode cX0_isIssued 15 = .ok (.iconst 0, 1) := by decide +kernel
theorem dX0_isIssued_16 : decode cX0_isIssued 16 = .ok (.ireturn, 1) := by decide +kernel
set_option maxRecDepth 20000 in
theorem ggX0_isRung_X0_isGone : GoodIn wsX0_isRung wsX0_isGone := goodIn_r _ [7, 8, 18, 19, 20, 21, 22, 23, 24, 25, 26] (by decide +kernel) (by decide +kernel)
set_option maxRecDepth 20000 in
theorem gX0_isRung_X0_isGone : GoodIn wsX0_isRung (wsV RX0 34 RX0 yX0_isGone wsX0_isGone) := goodIn_app (goodIn_of _ (by decide +kernel)) ggX0_isRung_X0_isGone
set_option maxRecDepth 20000 in
theorem ggX0_isRung_X0_isIssued : GoodIn wsX0_isRung wsX0_isIssued := goodIn_r _ [12, 1, 13, 18, 19, 20, 21, 22, 23, 24, 25, 26, 27, 28, 29, 30, 31, 32, 33, 34, 35] (by decide +kernel) (by decide +kernel)
set_option maxRecDepth 20000 in
theorem gX0_isRung_X0_isIssued : GoodIn wsX0_isRung (wsV RX0 38 RX0 yX0_isIssued wsX0_isIssued) := goodIn_app (goodIn_of _ (by decide +kernel)) ggX0_isRung_X0_isIssued
set_option maxRecDepth 20000 in
theorem ggX0_isRung_X1_yearOf : GoodIn wsX0_isRung wsX1_yearOf := goodIn_r _ [17] (by decide +kernel) (by decide +kernel)
set_option maxRecDepth 20000 in
theorem gX0_isRung_X1_yearOf : GoodIn wsX0_isRung (va_wsS RX0 45 yX1_yearOf wsX1_yearOf) := goodIn_app (goodIn_of _ (by decide +kernel)) ggX0_isRung_X1_yearOf
theorem dX0_isRung_0 : decode cX0_isRung 0 = .ok (.aload_n 0, 1) := by decide +kernel
theorem dX0_isRung_1 : decode cX0_isRung 1 = .ok (.invokevirtual 34, 3) := by decide +kernel
theorem dX0_isRung_4 : decode cX0_isRung 4 = .ok (.ifCond .ne 40, 3) := by decide +kernel
theorem dX0_isRung_7 : decode cX0_isRung 7 = .ok (.aload_n 0, 1) := by decide +kernel
theorem dX0_isRung_8 : decode cX0_isRung 8 = .ok (.iload_n 2, 1) := by decide +kernel
theorem dX0_isRung_9 : decode cX0_isRung 9 = .ok (.invokevirtual 38, 3) := by decide +kernel
theorem dX0_isRung_12 : decode cX0_isRung 12 = .ok (.ifCond .eq 32, 3) := by decide +kernel
theorem dX0_isRung_15 : decode cX0_isRung 15 = .ok (.aload_n 0, 1) := by decide +kernel
theorem dX0_isRung_16 : decode cX0_isRung 16 = .ok (.getfield 9, 3) := by decide +kernel
theorem dX0_isRung_19 : decode cX0_isRung 19 = .ok (.getfield 42, 3) := by decide +kernel
theorem dX0_isRung_22 : decode cX0_isRung 22 = .ok (.iload_n 2, 1) := by decide +kernel
theorem dX0_isRung_23 : decode cX0_isRung 23 = .ok (.if_icmp .le 21, 3) := by decide +kernel
theorem dX0_isRung_26 : decode cX0_isRung 26 = .ok (.aload_n 0, 1) := by decide +kernel
theorem dX0_isRung_27 : decode cX0_isRung 27 = .ok (.getfield 9, 3) := by decide +kernel
theorem dX0_isRung_30 : decode cX0_isRung 30 = .ok (.getfield 42, 3) := by decide +kernel
theorem dX0_isRung_33 : decode cX0_isRung 33 = .ok (.invokestatic 45, 3) := by decide +kernel
theorem dX0_isRung_36 : decode cX0_isRung 36 = .ok (.iload_n 1, 1) := by decide +kernel
theorem dX0_isRung_37 : decode cX0_isRung 37 = .ok (.if_icmp .ne 7, 3) := by decide +kernel
theorem dX0_isRung_40 : decode cX0_isRung 40 = .ok (.iconst 1, 1) := by decide +kernel
theorem dX0_isRung_41 : decode cX0_isRung 41 = .ok (.goto 4, 3) := by decide +kernel
theorem dX0_isRung_44 : decode cX0_isRung 44 = .ok (.iconst 0, 1) := by decide +kernel
theorem dX0_isRung_45 : decode cX0_isRung 45 = .ok (.ireturn, 1) := by decide +kernel
theorem dX0_faceOf_0 : decode cX0_faceOf 0 = .ok (.ldc2_w 50, 3) := by decide +kernel
theorem dX0_faceOf_3 : decode cX0_faceOf 3 = .ok (.iload_n 0, 1) := by decide +kernel
theorem dX0_faceOf_4 : decode cX0_faceOf 4 = .ok (.i2l, 1) := by decide +kernel
theorem dX0_faceOf_5 : decode cX0_faceOf 5 = .ok (.lmul, 1) := by decide +kernel
theorem dX0_faceOf_6 : decode cX0_faceOf 6 = .ok (.ldc2_w 52, 3) := by decide +kernel
theorem dX0_faceOf_9 : decode cX0_faceOf 9 = .ok (.ldiv, 1) := by decide +kernel
theorem dX0_faceOf_10 : decode cX0_faceOf 10 = .ok (.lreturn, 1) := by decide +kernel
set_option maxRecDepth 20000 in
theorem ggX0_face_X0_faceOf : GoodIn wsX0_face wsX0_faceOf := goodIn_r _ [5, 6, 7] (by decide +kernel) (by decide +kernel)
set_option maxRecDepth 20000 in
theorem gX0_face_X0_faceOf : GoodIn wsX0_face (va_wsS RX0 54 yX0_faceOf wsX0_faceOf) := goodIn_app (goodIn_of _ (by decide +kernel)) ggX0_face_X0_faceOf
theorem dX0_face_0 : decode cX0_face 0 = .ok (.aload_n 0, 1) := by decide +kernel
theorem dX0_face_1 : decode cX0_face 1 = .ok (.getfield 15, 3) := by decide +kernel
theorem dX0_face_4 : decode cX0_face 4 = .ok (.invokestatic 54, 3) := by decide +kernel
theorem dX0_face_7 : decode cX0_face 7 = .ok (.lreturn, 1) := by decide +kernel
set_option maxRecDepth 20000 in
theorem ggX0_accruedOn_X0_isGone : GoodIn wsX0_accruedOn wsX0_isGone := goodIn_r _ [6, 7, 72, 73, 74, 75, 76, 77, 78, 79, 80] (by decide +kernel) (by decide +kernel)
set_option maxRecDepth 20000 in
theorem gX0_accruedOn_X0_isGone : GoodIn wsX0_accruedOn (wsV RX0 34 RX0 yX0_isGone wsX0_isGone) := goodIn_app (goodIn_of _ (by decide +kernel)) ggX0_accruedOn_X0_isGone
set_option maxRecDepth 20000 in
theorem ggX0_accruedOn_X0_face : GoodIn wsX0_accruedOn wsX0_face := goodIn_r _ [11, 12, 13, 14, 5, 15, 16, 17, 72, 73, 74, 75, 76, 77, 78, 79, 80] (by decide +kernel) (by decide +kernel)
set_option maxRecDepth 20000 in
theorem gX0_accruedOn_X0_face : GoodIn wsX0_accruedOn (wsV RX0 58 RX0 yX0_face wsX0_face) := goodIn_app (goodIn_of _ (by decide +kernel)) ggX0_accruedOn_X0_face
set_option maxRecDepth 20000 in
theorem ggX0_accruedOn_X3_accruedFor : GoodIn wsX0_accruedOn wsX3_accruedFor := goodIn_r _ [22, 23, 24, 25, 26, 27, 28, 21, 29, 30, 31, 32, 33, 34, 35, 36, 37, 38, 39, 40, 41, 42, 43, 44, 45, 46, 47, 48, 49, 50, 51, 52, 53, 54, 55, 56, 57, 58, 59, 60, 61, 62, 63, 64, 65, 66, 67, 68, 69, 70, 71, 81, 82, 83, 84, 85, 86, 87, 88, 89] (by decide +kernel) (by decide +kernel)
set_option maxRecDepth 20000 in
theorem gX0_accruedOn_X3_accruedFor : GoodIn wsX0_accruedOn (wsV RX0 62 RX3 yX3_accruedFor wsX3_accruedFor) := goodIn_app (goodIn_of _ (by decide +kernel)) ggX0_accruedOn_X3_accruedFor
theorem dX0_accruedOn_0 : decode cX0_accruedOn 0 = .ok (.aload_n 0, 1) := by decide +kernel
theorem dX0_accruedOn_1 : decode cX0_accruedOn 1 = .ok (.invokevirtual 34, 3) := by decide +kernel
theorem dX0_accruedOn_4 : decode cX0_accruedOn 4 = .ok (.ifCond .eq 7, 3) := by decide +kernel
theorem dX0_accruedOn_7 : decode cX0_accruedOn 7 = .ok (.lconst 0, 1) := by decide +kernel
theorem dX0_accruedOn_8 : decode cX0_accruedOn 8 = .ok (.goto 15, 3) := by decide +kernel
theorem dX0_accruedOn_11 : decode cX0_accruedOn 11 = .ok (.aload_n 0, 1) := by decide +kernel
theorem dX0_accruedOn_12 : decode cX0_accruedOn 12 = .ok (.getfield 9, 3) := by decide +kernel
theorem dX0_accruedOn_15 : decode cX0_accruedOn 15 = .ok (.iload_n 1, 1) := by decide +kernel
theorem dX0_accruedOn_16 : decode cX0_accruedOn 16 = .ok (.aload_n 0, 1) := by decide +kernel
theorem dX0_accruedOn_17 : decode cX0_accruedOn 17 = .ok (.invokevirtual 58, 3) := by decide +kernel
theorem dX0_accruedOn_20 : decode cX0_accruedOn 20 = .ok (.invokevirtual 62, 3) := by decide +kernel
theorem dX0_accruedOn_23 : decode cX0_accruedOn 23 = .ok (.lreturn, 1) := by decide +kernel
set_option maxRecDepth 20000 in
theorem ggX0_fullPrice_X0_face : GoodIn wsX0_fullPrice wsX0_face := goodIn_r _ [7, 8, 9, 10, 6, 11, 12, 1, 67, 68, 69, 70, 71, 72, 73, 74, 75] (by decide +kernel) (by decide +kernel)
set_option maxRecDepth 20000 in
theorem gX0_fullPrice_X0_face : GoodIn wsX0_fullPrice (wsV RX0 58 RX0 yX0_face wsX0_face) := goodIn_app (goodIn_of _ (by decide +kernel)) ggX0_fullPrice_X0_face
set_option maxRecDepth 20000 in
theorem ggX0_fullPrice_X3_accruedFor : GoodIn wsX0_fullPrice wsX3_accruedFor := goodIn_r _ [17, 18, 19, 20, 21, 22, 23, 16, 24, 25, 26, 27, 28, 29, 30, 31, 32, 33, 34, 35, 36, 37, 38, 39, 40, 41, 42, 43, 44, 45, 46, 47, 48, 49, 50, 51, 52, 53, 54, 55, 56, 57, 58, 59, 60, 61, 62, 63, 64, 65, 66, 76, 77, 78, 79, 80, 81, 82, 83, 84] (by decide +kernel) (by decide +kernel)
set_option maxRecDepth 20000 in
theorem gX0_fullPrice_X3_accruedFor : GoodIn wsX0_fullPrice (wsV RX0 62 RX3 yX3_accruedFor wsX3_accruedFor) := goodIn_app (goodIn_of _ (by decide +kernel)) ggX0_fullPrice_X3_accruedFor
theorem dX0_fullPrice_0 : decode cX0_fullPrice 0 = .ok (.aload_n 0, 1) := by decide +kernel
theorem dX0_fullPrice_1 : decode cX0_fullPrice 1 = .ok (.invokevirtual 58, 3) := by decide +kernel
theorem dX0_fullPrice_4 : decode cX0_fullPrice 4 = .ok (.iload_n 2, 1) := by decide +kernel
theorem dX0_fullPrice_5 : decode cX0_fullPrice 5 = .ok (.i2l, 1) := by decide +kernel
theorem dX0_fullPrice_6 : decode cX0_fullPrice 6 = .ok (.lmul, 1) := by decide +kernel
theorem dX0_fullPrice_7 : decode cX0_fullPrice 7 = .ok (.ldc2_w 52, 3) := by decide +kernel
theorem dX0_fullPrice_10 : decode cX0_fullPrice 10 = .ok (.ldiv, 1) := by decide +kernel
theorem dX0_fullPrice_11 : decode cX0_fullPrice 11 = .ok (.aload_n 0, 1) := by decide +kernel
theorem dX0_fullPrice_12 : decode cX0_fullPrice 12 = .ok (.getfield 9, 3) := by decide +kernel
theorem dX0_fullPrice_15 : decode cX0_fullPrice 15 = .ok (.iload_n 1, 1) := by decide +kernel
theorem dX0_fullPrice_16 : decode cX0_fullPrice 16 = .ok (.aload_n 0, 1) := by decide +kernel
theorem dX0_fullPrice_17 : decode cX0_fullPrice 17 = .ok (.invokevirtual 58, 3) := by decide +kernel
theorem dX0_fullPrice_20 : decode cX0_fullPrice 20 = .ok (.invokevirtual 62, 3) := by decide +kernel
theorem dX0_fullPrice_23 : decode cX0_fullPrice 23 = .ok (.ladd, 1) := by decide +kernel
theorem dX0_fullPrice_24 : decode cX0_fullPrice 24 = .ok (.lreturn, 1) := by decide +kernel
theorem dX0_isEnd_0 : decode cX0_isEnd 0 = .ok (.iload_n 1, 1) := by decide +kernel
theorem dX0_isEnd_1 : decode cX0_isEnd 1 = .ok (.aload_n 0, 1) := by decide +kernel
theorem dX0_isEnd_2 : decode cX0_isEnd 2 = .ok (.getfield 9, 3) := by decide +kernel
theorem dX0_isEnd_5 : decode cX0_isEnd 5 = .ok (.getfield 66, 3) := by decide +kernel
theorem dX0_isEnd_8 : decode cX0_isEnd 8 = .ok (.arraylength, 1) := by decide +kernel
theorem dX0_isEnd_9 : decode cX0_isEnd 9 = .ok (.iconst 1, 1) := by decide +kernel
theorem dX0_isEnd_10 : decode cX0_isEnd 10 = .ok (.isub, 1) := by decide +kernel
theorem dX0_isEnd_11 : decode cX0_isEnd 11 = .ok (.if_icmp .ne 7, 3) := by decide +kernel
theorem dX0_isEnd_14 : decode cX0_isEnd 14 = .ok (.iconst 1, 1) := by decide +kernel
theorem dX0_isEnd_15 : decode cX0_isEnd 15 = .ok (.goto 4, 3) := by decide +kernel
theorem dX0_isEnd_18 : decode cX0_isEnd 18 = .ok (.iconst 0, 1) := by decide +kernel
theorem dX0_isEnd_19 : decode cX0_isEnd 19 = .ok (.ireturn, 1) := by decide +kernel
theorem dX0_sunkOn_0 : decode cX0_sunkOn 0 = .ok (.iload_n 1, 1) := by decide +kernel
theorem dX0_sunkOn_1 : decode cX0_sunkOn 1 = .ok (.ifCond .lt 37, 3) := by decide +kernel
theorem dX0_sunkOn_4 : decode cX0_sunkOn 4 = .ok (.iload_n 1, 1) := by decide +kernel
theorem dX0_sunkOn_5 : decode cX0_sunkOn 5 = .ok (.aload_n 0, 1) := by decide +kernel
theorem dX0_sunkOn_6 : decode cX0_sunkOn 6 = .ok (.getfield 9, 3) := by decide +kernel
theorem dX0_sunkOn_9 : decode cX0_sunkOn 9 = .ok (.getfield 66, 3) := by decide +kernel
theorem dX0_sunkOn_12 : decode cX0_sunkOn 12 = .ok (.arraylength, 1) := by decide +kernel
theorem dX0_sunkOn_13 : decode cX0_sunkOn 13 = .ok (.iconst 1, 1) := by decide +kernel
theorem dX0_sunkOn_14 : decode cX0_sunkOn 14 = .ok (.isub, 1) := by decide +kernel
theorem dX0_sunkOn_15 : decode cX0_sunkOn 15 = .ok (.if_icmp .ge 23, 3) := by decide +kernel
theorem dX0_sunkOn_18 : decode cX0_sunkOn 18 = .ok (.aload_n 0, 1) := by decide +kernel
theorem dX0_sunkOn_19 : decode cX0_sunkOn 19 = .ok (.getfield 9, 3) := by decide +kernel
theorem dX0_sunkOn_22 : decode cX0_sunkOn 22 = .ok (.getfield 66, 3) := by decide +kernel
theorem dX0_sunkOn_25 : decode cX0_sunkOn 25 = .ok (.iload_n 1, 1) := by decide +kernel
theorem dX0_sunkOn_26 : decode cX0_sunkOn 26 = .ok (.iaload, 1) := by decide +kernel
theorem dX0_sunkOn_27 : decode cX0_sunkOn 27 = .ok (.aload_n 0, 1) := by decide +kernel
theorem dX0_sunkOn_28 : decode cX0_sunkOn 28 = .ok (.getfield 70, 3) := by decide +kernel
theorem dX0_sunkOn_31 : decode cX0_sunkOn 31 = .ok (.if_icmp .lt 7, 3) := by decide +kernel
theorem dX0_sunkOn_34 : decode cX0_sunkOn 34 = .ok (.iconst 1, 1) := by decide +kernel
theorem dX0_sunkOn_35 : decode cX0_sunkOn 35 = .ok (.goto 4, 3) := by decide +kernel
theorem dX0_sunkOn_38 : decode cX0_sunkOn 38 = .ok (.iconst 0, 1) := by decide +kernel
theorem dX0_sunkOn_39 : decode cX0_sunkOn 39 = .ok (.istore_n 3, 1) := by decide +kernel
theorem dX0_sunkOn_40 : decode cX0_sunkOn 40 = .ok (.iload_n 3, 1) := by decide +kernel
theorem dX0_sunkOn_41 : decode cX0_sunkOn 41 = .ok (.ifCond .eq 14, 3) := by decide +kernel
theorem dX0_sunkOn_44 : decode cX0_sunkOn 44 = .ok (.aload_n 0, 1) := by decide +kernel
theorem dX0_sunkOn_45 : decode cX0_sunkOn 45 = .ok (.getfield 73, 3) := by decide +kernel
theorem dX0_sunkOn_48 : decode cX0_sunkOn 48 = .ok (.iload_n 2, 1) := by decide +kernel
theorem dX0_sunkOn_49 : decode cX0_sunkOn 49 = .ok (.invokestatic 76, 3) := by decide +kernel
theorem dX0_sunkOn_52 : decode cX0_sunkOn 52 = .ok (.goto 4, 3) := by decide +kernel
theorem dX0_sunkOn_55 : decode cX0_sunkOn 55 = .ok (.iconst 0, 1) := by decide +kernel
theorem dX0_sunkOn_56 : decode cX0_sunkOn 56 = .ok (.ireturn, 1) := by decide +kernel
set_option maxRecDepth 20000 in
theorem ggX0_paymentOn_X0_faceOf : GoodIn wsX0_paymentOn wsX0_faceOf := goodIn_r _ [5, 6, 7] (by decide +kernel) (by decide +kernel)
set_option maxRecDepth 20000 in
theorem gX0_paymentOn_X0_faceOf : GoodIn wsX0_paymentOn (va_wsS RX0 54 yX0_faceOf wsX0_faceOf) := goodIn_app (goodIn_of _ (by decide +kernel)) ggX0_paymentOn_X0_faceOf
set_option maxRecDepth 20000 in
theorem ggX0_paymentOn_X3_couponFor : GoodIn wsX0_paymentOn wsX3_couponFor := goodIn_r _ [12, 13, 14, 15, 16, 17, 18, 19, 44, 45, 46, 47, 48, 49, 50, 51, 52] (by decide +kernel) (by decide +kernel)
set_option maxRecDepth 20000 in
theorem gX0_paymentOn_X3_couponFor : GoodIn wsX0_paymentOn (wsV RX0 82 RX3 yX3_couponFor wsX3_couponFor) := goodIn_app (goodIn_of _ (by decide +kernel)) ggX0_paymentOn_X3_couponFor
set_option maxRecDepth 20000 in
theorem ggX0_paymentOn_X0_isEnd : GoodIn wsX0_paymentOn wsX0_isEnd := goodIn_r _ [23, 1, 24, 35, 36, 37, 38, 39, 40, 41, 42, 43, 44, 45, 46, 47, 48, 49, 50, 51, 52] (by decide +kernel) (by decide +kernel)
set_option maxRecDepth 20000 in
theorem gX0_paymentOn_X0_isEnd : GoodIn wsX0_paymentOn (wsV RX0 85 RX0 yX0_isEnd wsX0_isEnd) := goodIn_app (goodIn_of _ (by decide +kernel)) ggX0_paymentOn_X0_isEnd
set_option maxRecDepth 20000 in
theorem ggX0_paymentOn_X0_sunkOn : GoodIn wsX0_paymentOn wsX0_sunkOn := goodIn_r _ [28, 1, 24, 29, 30, 31, 32, 33, 34, 35, 36, 37, 38, 39, 40, 41, 42, 43, 44, 45, 46, 47, 48, 49, 50, 51, 52] (by decide +kernel) (by decide +kernel)
set_option maxRecDepth 20000 in
theorem gX0_paymentOn_X0_sunkOn : GoodIn wsX0_paymentOn (wsV RX0 88 RX0 yX0_sunkOn wsX0_sunkOn) := goodIn_app (goodIn_of _ (by decide +kernel)) ggX0_paymentOn_X0_sunkOn
theorem dX0_paymentOn_0 : decode cX0_paymentOn 0 = .ok (.aload_n 0, 1) := by decide +kernel
theorem dX0_paymentOn_1 : decode cX0_paymentOn 1 = .ok (.getfield 9, 3) := by decide +kernel
theorem dX0_paymentOn_4 : decode cX0_paymentOn 4 = .ok (.iload_n 1, 1) := by decide +kernel
theorem dX0_paymentOn_5 : decode cX0_paymentOn 5 = .ok (.iload_n 2, 1) := by decide +kernel
theorem dX0_paymentOn_6 : decode cX0_paymentOn 6 = .ok (.invokestatic 54, 3) := by decide +kernel
theorem dX0_paymentOn_9 : decode cX0_paymentOn 9 = .ok (.invokevirtual 82, 3) := by decide +kernel
theorem dX0_paymentOn_12 : decode cX0_paymentOn 12 = .ok (.aload_n 0, 1) := by decide +kernel
theorem dX0_paymentOn_13 : decode cX0_paymentOn 13 = .ok (.iload_n 1, 1) := by decide +kernel
theorem dX0_paymentOn_14 : decode cX0_paymentOn 14 = .ok (.invokevirtual 85, 3) := by decide +kernel
theorem dX0_paymentOn_17 : decode cX0_paymentOn 17 = .ok (.ifCond .eq 7, 3) := by decide +kernel
theorem dX0_paymentOn_20 : decode cX0_paymentOn 20 = .ok (.iload_n 2, 1) := by decide +kernel
theorem dX0_paymentOn_21 : decode cX0_paymentOn 21 = .ok (.goto 9, 3) := by decide +kernel
theorem dX0_paymentOn_24 : decode cX0_paymentOn 24 = .ok (.aload_n 0, 1) := by decide +kernel
theorem dX0_paymentOn_25 : decode cX0_paymentOn 25 = .ok (.iload_n 1, 1) := by decide +kernel
theorem dX0_paymentOn_26 : decode cX0_paymentOn 26 = .ok (.iload_n 2, 1) := by decide +kernel
theorem dX0_paymentOn_27 : decode cX0_paymentOn 27 = .ok (.invokevirtual 88, 3) := by decide +kernel
theorem dX0_paymentOn_30 : decode cX0_paymentOn 30 = .ok (.invokestatic 54, 3) := by decide +kernel
theorem dX0_paymentOn_33 : decode cX0_paymentOn 33 = .ok (.ladd, 1) := by decide +kernel
theorem dX0_paymentOn_34 : decode cX0_paymentOn 34 = .ok (.lreturn, 1) := by decide +kernel
set_option maxRecDepth 20000 in
theorem ggX0_factorBehind_X0_sunkOn : GoodIn wsX0_factorBehind wsX0_sunkOn := goodIn_r _ [7, 8, 9, 10, 11, 12, 13, 14, 15, 16, 17, 18, 19, 20, 21, 22, 23, 24, 25, 26, 27, 28, 29, 30, 31, 32, 33] (by decide +kernel) (by decide +kernel)
set_option maxRecDepth 20000 in
theorem gX0_factorBehind_X0_sunkOn : GoodIn wsX0_factorBehind (wsV RX0 88 RX0 yX0_sunkOn wsX0_sunkOn) := goodIn_app (goodIn_of _ (by decide +kernel)) ggX0_factorBehind_X0_sunkOn
theorem dX0_factorBehind_0 : decode cX0_factorBehind 0 = .ok (.aload_n 0, 1) := by decide +kernel
theorem dX0_factorBehind_1 : decode cX0_factorBehind 1 = .ok (.getfield 15, 3) := by decide +kernel
theorem dX0_factorBehind_4 : decode cX0_factorBehind 4 = .ok (.istore_n 2, 1) := by decide +kernel
theorem dX0_factorBehind_5 : decode cX0_factorBehind 5 = .ok (.aload_n 0, 1) := by decide +kernel
theorem dX0_factorBehind_6 : decode cX0_factorBehind 6 = .ok (.getfield 25, 3) := by decide +kernel
theorem dX0_factorBehind_9 : decode cX0_factorBehind 9 = .ok (.istore_n 3, 1) := by decide +kernel
theorem dX0_factorBehind_10 : decode cX0_factorBehind 10 = .ok (.iload_n 3, 1) := by decide +kernel
theorem dX0_factorBehind_11 : decode cX0_factorBehind 11 = .ok (.iload_n 1, 1) := by decide +kernel
theorem dX0_factorBehind_12 : decode cX0_factorBehind 12 = .ok (.if_icmp .gt 18, 3) := by decide +kernel
theorem dX0_factorBehind_15 : decode cX0_factorBehind 15 = .ok (.iload_n 2, 1) := by decide +kernel
theorem dX0_factorBehind_16 : decode cX0_factorBehind 16 = .ok (.aload_n 0, 1) := by decide +kernel
theorem dX0_factorBehind_17 : decode cX0_factorBehind 17 = .ok (.iload_n 3, 1) := by decide +kernel
theorem dX0_factorBehind_18 : decode cX0_factorBehind 18 = .ok (.iload_n 2, 1) := by decide +kernel
theorem dX0_factorBehind_19 : decode cX0_factorBehind 19 = .ok (.invokevirtual 88, 3) := by decide +kernel
theorem dX0_factorBehind_22 : decode cX0_factorBehind 22 = .ok (.isub, 1) := by decide +kernel
theorem dX0_factorBehind_23 : decode cX0_factorBehind 23 = .ok (.istore_n 2, 1) := by decide +kernel
theorem dX0_factorBehind_24 : decode cX0_factorBehind 24 = .ok (.iinc 3 1, 3) := by decide +kernel
theorem dX0_factorBehind_27 : decode cX0_factorBehind 27 = .ok (.goto (-17), 3) := by decide +kernel
theorem dX0_factorBehind_30 : decode cX0_factorBehind 30 = .ok (.iload_n 2, 1) := by decide +kernel
theorem dX0_factorBehind_31 : decode cX0_factorBehind 31 = .ok (.ireturn, 1) := by decide +kernel
set_option maxRecDepth 20000 in
theorem ggX0_worthAt_X3_firstBehind : GoodIn wsX0_worthAt wsX3_firstBehind := goodIn_r _ [12, 13, 70, 71, 72, 73, 74, 75, 76, 77, 78] (by decide +kernel) (by decide +kernel)
set_option maxRecDepth 20000 in
theorem gX0_worthAt_X3_firstBehind : GoodIn wsX0_worthAt (wsV RX0 19 RX3 yX3_firstBehind wsX3_firstBehind) := goodIn_app (goodIn_of _ (by decide +kernel)) ggX0_worthAt_X3_firstBehind
set_option maxRecDepth 20000 in
theorem ggX0_worthAt_X0_isGone : GoodIn wsX0_worthAt wsX0_isGone := goodIn_r _ [18, 19, 61, 62, 63, 64, 65, 66, 67, 68, 69] (by decide +kernel) (by decide +kernel)
set_option maxRecDepth 20000 in
theorem gX0_worthAt_X0_isGone : GoodIn wsX0_worthAt (wsV RX0 34 RX0 yX0_isGone wsX0_isGone) := goodIn_app (goodIn_of _ (by decide +kernel)) ggX0_worthAt_X0_isGone
set_option maxRecDepth 20000 in
theorem ggX0_worthAt_X1_daysBetween : GoodIn wsX0_worthAt wsX1_daysBetween := goodIn_r _ [23, 24, 25, 22, 26, 27] (by decide +kernel) (by decide +kernel)
set_option maxRecDepth 20000 in
theorem gX0_worthAt_X1_daysBetween : GoodIn wsX0_worthAt (va_wsS RX0 96 yX1_daysBetween wsX1_daysBetween) := goodIn_app (goodIn_of _ (by decide +kernel)) ggX0_worthAt_X1_daysBetween
set_option maxRecDepth 20000 in
theorem ggX0_worthAt_X0_paymentOn : GoodIn wsX0_worthAt wsX0_paymentOn := goodIn_r _ [31, 1, 32, 33, 17, 34, 35, 2, 36, 37, 38, 11, 39, 40, 41, 42, 43, 44, 45, 46, 47, 48, 49, 50, 4, 51, 52, 53, 54, 55, 56, 57, 58, 59, 60, 61, 62, 63, 64, 65, 66, 67, 68, 69, 70, 71, 72, 73, 74, 75, 76, 77, 78] (by decide +kernel) (by decide +kernel)
set_option maxRecDepth 20000 in
theorem gX0_worthAt_X0_paymentOn : GoodIn wsX0_worthAt (wsV RX0 101 RX0 yX0_paymentOn wsX0_paymentOn) := goodIn_app (goodIn_of _ (by decide +kernel)) ggX0_worthAt_X0_paymentOn
set_option maxRecDepth 20000 in
theorem ggX0_worthAt_X0_sunkOn : GoodIn wsX0_worthAt wsX0_sunkOn := goodIn_r _ [54, 1, 4, 55, 56, 57, 58, 59, 60, 61, 62, 63, 64, 65, 66, 67, 68, 69, 70, 71, 72, 73, 74, 75, 76, 77, 78] (by decide +kernel) (by decide +kernel)
set_option maxRecDepth 20000 in
theorem gX0_worthAt_X0_sunkOn : GoodIn wsX0_worthAt (wsV RX0 88 RX0 yX0_sunkOn wsX0_sunkOn) := goodIn_app (goodIn_of _ (by decide +kernel)) ggX0_worthAt_X0_sunkOn
theorem dX0_worthAt_0 : decode cX0_worthAt 0 = .ok (.aload_n 0, 1) := by decide +kernel
theorem dX0_worthAt_1 : decode cX0_worthAt 1 = .ok (.getfield 9, 3) := by decide +kernel
theorem dX0_worthAt_4 : decode cX0_worthAt 4 = .ok (.iload_n 1, 1) := by decide +kernel
theorem dX0_worthAt_5 : decode cX0_worthAt 5 = .ok (.invokevirtual 19, 3) := by decide +kernel
theorem dX0_worthAt_8 : decode cX0_worthAt 8 = .ok (.istore 4, 2) := by decide +kernel
theorem dX0_worthAt_10 : decode cX0_worthAt 10 = .ok (.ldc2_w 52, 3) := by decide +kernel
theorem dX0_worthAt_13 : decode cX0_worthAt 13 = .ok (.aload_n 0, 1) := by decide +kernel
theorem dX0_worthAt_14 : decode cX0_worthAt 14 = .ok (.getfield 9, 3) := by decide +kernel
theorem dX0_worthAt_17 : decode cX0_worthAt 17 = .ok (.getfield 91, 3) := by decide +kernel
theorem dX0_worthAt_20 : decode cX0_worthAt 20 = .ok (.i2l, 1) := by decide +kernel
theorem dX0_worthAt_21 : decode cX0_worthAt 21 = .ok (.lmul, 1) := by decide +kernel
theorem dX0_worthAt_22 : decode cX0_worthAt 22 = .ok (.lstore 5, 2) := by decide +kernel
theorem dX0_worthAt_24 : decode cX0_worthAt 24 = .ok (.aload_n 0, 1) := by decide +kernel
theorem dX0_worthAt_25 : decode cX0_worthAt 25 = .ok (.invokevirtual 34, 3) := by decide +kernel
theorem dX0_worthAt_28 : decode cX0_worthAt 28 = .ok (.ifCond .ne 27, 3) := by decide +kernel
theorem dX0_worthAt_31 : decode cX0_worthAt 31 = .ok (.iload 4, 2) := by decide +kernel
theorem dX0_worthAt_33 : decode cX0_worthAt 33 = .ok (.aload_n 0, 1) := by decide +kernel
theorem dX0_worthAt_34 : decode cX0_worthAt 34 = .ok (.getfield 9, 3) := by decide +kernel
theorem dX0_worthAt_37 : decode cX0_worthAt 37 = .ok (.getfield 66, 3) := by decide +kernel
theorem dX0_worthAt_40 : decode cX0_worthAt 40 = .ok (.arraylength, 1) := by decide +kernel
theorem dX0_worthAt_41 : decode cX0_worthAt 41 = .ok (.if_icmp .ge 14, 3) := by decide +kernel
theorem dX0_worthAt_44 : decode cX0_worthAt 44 = .ok (.lload 5, 2) := by decide +kernel
theorem dX0_worthAt_46 : decode cX0_worthAt 46 = .ok (.lconst 0, 1) := by decide +kernel
theorem dX0_worthAt_47 : decode cX0_worthAt 47 = .ok (.lcmp, 1) := by decide +kernel
theorem dX0_worthAt_48 : decode cX0_worthAt 48 = .ok (.ifCond .le 7, 3) := by decide +kernel
theorem dX0_worthAt_51 : decode cX0_worthAt 51 = .ok (.iload_n 3, 1) := by decide +kernel
theorem dX0_worthAt_52 : decode cX0_worthAt 52 = .ok (.ifCond .ge 5, 3) := by decide +kernel
theorem dX0_worthAt_55 : decode cX0_worthAt 55 = .ok (.lconst 0, 1) := by decide +kernel
theorem dX0_worthAt_56 : decode cX0_worthAt 56 = .ok (.lreturn, 1) := by decide +kernel
theorem dX0_worthAt_57 : decode cX0_worthAt 57 = .ok (.ldc2_w 94, 3) := by decide +kernel
theorem dX0_worthAt_60 : decode cX0_worthAt 60 = .ok (.iload_n 3, 1) := by decide +kernel
theorem dX0_worthAt_61 : decode cX0_worthAt 61 = .ok (.i2l, 1) := by decide +kernel
theorem dX0_worthAt_62 : decode cX0_worthAt 62 = .ok (.iload_n 1, 1) := by decide +kernel
theorem dX0_worthAt_63 : decode cX0_worthAt 63 = .ok (.aload_n 0, 1) := by decide +kernel
theorem dX0_worthAt_64 : decode cX0_worthAt 64 = .ok (.getfield 9, 3) := by decide +kernel
theorem dX0_worthAt_67 : decode cX0_worthAt 67 = .ok (.getfield 66, 3) := by decide +kernel
theorem dX0_worthAt_70 : decode cX0_worthAt 70 = .ok (.iload 4, 2) := by decide +kernel
theorem dX0_worthAt_72 : decode cX0_worthAt 72 = .ok (.iaload, 1) := by decide +kernel
theorem dX0_worthAt_73 : decode cX0_worthAt 73 = .ok (.invokestatic 96, 3) := by decide +kernel
theorem dX0_worthAt_76 : decode cX0_worthAt 76 = .ok (.i2l, 1) := by decide +kernel
theorem dX0_worthAt_77 : decode cX0_worthAt 77 = .ok (.lmul, 1) := by decide +kernel
theorem dX0_worthAt_78 : decode cX0_worthAt 78 = .ok (.ladd, 1) := by decide +kernel
theorem dX0_worthAt_79 : decode cX0_worthAt 79 = .ok (.lstore 7, 2) := by decide +kernel
theorem dX0_worthAt_81 : decode cX0_worthAt 81 = .ok (.lload 7, 2) := by decide +kernel
theorem dX0_worthAt_83 : decode cX0_worthAt 83 = .ok (.lconst 0, 1) := by decide +kernel
theorem dX0_worthAt_84 : decode cX0_worthAt 84 = .ok (.lcmp, 1) := by decide +kernel
theorem dX0_worthAt_85 : decode cX0_worthAt 85 = .ok (.ifCond .gt 7, 3) := by decide +kernel
theorem dX0_worthAt_88 : decode cX0_worthAt 88 = .ok (.lconst 0, 1) := by decide +kernel
theorem dX0_worthAt_89 : decode cX0_worthAt 89 = .ok (.goto 9, 3) := by decide +kernel
theorem dX0_worthAt_92 : decode cX0_worthAt 92 = .ok (.ldc2_w 99, 3) := by decide +kernel
theorem dX0_worthAt_95 : decode cX0_worthAt 95 = .ok (.lload 7, 2) := by decide +kernel
theorem dX0_worthAt_97 : decode cX0_worthAt 97 = .ok (.ldiv, 1) := by decide +kernel
theorem dX0_worthAt_98 : decode cX0_worthAt 98 = .ok (.lstore 9, 2) := by decide +kernel
theorem dX0_worthAt_100 : decode cX0_worthAt 100 = .ok (.lconst 0, 1) := by decide +kernel
theorem dX0_worthAt_101 : decode cX0_worthAt 101 = .ok (.lstore 11, 2) := by decide +kernel
theorem dX0_worthAt_103 : decode cX0_worthAt 103 = .ok (.iload 4, 2) := by decide +kernel
theorem dX0_worthAt_105 : decode cX0_worthAt 105 = .ok (.istore 13, 2) := by decide +kernel
theorem dX0_worthAt_107 : decode cX0_worthAt 107 = .ok (.iload 13, 2) := by decide +kernel
theorem dX0_worthAt_109 : decode cX0_worthAt 109 = .ok (.aload_n 0, 1) := by decide +kernel
theorem dX0_worthAt_110 : decode cX0_worthAt 110 = .ok (.getfield 9, 3) := by decide +kernel
theorem dX0_worthAt_113 : decode cX0_worthAt 113 = .ok (.getfield 66, 3) := by decide +kernel
theorem dX0_worthAt_116 : decode cX0_worthAt 116 = .ok (.arraylength, 1) := by decide +kernel
theorem dX0_worthAt_117 : decode cX0_worthAt 117 = .ok (.if_icmp .ge 51, 3) := by decide +kernel
theorem dX0_worthAt_120 : decode cX0_worthAt 120 = .ok (.lload 11, 2) := by decide +kernel
theorem dX0_worthAt_122 : decode cX0_worthAt 122 = .ok (.aload_n 0, 1) := by decide +kernel
theorem dX0_worthAt_123 : decode cX0_worthAt 123 = .ok (.iload 13, 2) := by decide +kernel
theorem dX0_worthAt_125 : decode cX0_worthAt 125 = .ok (.iload_n 2, 1) := by decide +kernel
theorem dX0_worthAt_126 : decode cX0_worthAt 126 = .ok (.invokevirtual 101, 3) := by decide +kernel
theorem dX0_worthAt_129 : decode cX0_worthAt 129 = .ok (.lload 9, 2) := by decide +kernel
theorem dX0_worthAt_131 : decode cX0_worthAt 131 = .ok (.lmul, 1) := by decide +kernel
theorem dX0_worthAt_132 : decode cX0_worthAt 132 = .ok (.ldc2_w 105, 3) := by decide +kernel
theorem dX0_worthAt_135 : decode cX0_worthAt 135 = .ok (.ldiv, 1) := by decide +kernel
theorem dX0_worthAt_136 : decode cX0_worthAt 136 = .ok (.ladd, 1) := by decide +kernel
theorem dX0_worthAt_137 : decode cX0_worthAt 137 = .ok (.lstore 11, 2) := by decide +kernel
theorem dX0_worthAt_139 : decode cX0_worthAt 139 = .ok (.iload_n 2, 1) := by decide +kernel
theorem dX0_worthAt_140 : decode cX0_worthAt 140 = .ok (.aload_n 0, 1) := by decide +kernel
theorem dX0_worthAt_141 : decode cX0_worthAt 141 = .ok (.iload 13, 2) := by decide +kernel
theorem dX0_worthAt_143 : decode cX0_worthAt 143 = .ok (.iload_n 2, 1) := by decide +kernel
theorem dX0_worthAt_144 : decode cX0_worthAt 144 = .ok (.invokevirtual 88, 3) := by decide +kernel
theorem dX0_worthAt_147 : decode cX0_worthAt 147 = .ok (.isub, 1) := by decide +kernel
theorem dX0_worthAt_148 : decode cX0_worthAt 148 = .ok (.istore_n 2, 1) := by decide +kernel
theorem dX0_worthAt_149 : decode cX0_worthAt 149 = .ok (.lload 9, 2) := by decide +kernel
theorem dX0_worthAt_151 : decode cX0_worthAt 151 = .ok (.lload 5, 2) := by decide +kernel
theorem dX0_worthAt_153 : decode cX0_worthAt 153 = .ok (.lmul, 1) := by decide +kernel
theorem dX0_worthAt_154 : decode cX0_worthAt 154 = .ok (.lload 5, 2) := by decide +kernel
theorem dX0_worthAt_156 : decode cX0_worthAt 156 = .ok (.iload_n 3, 1) := by decide +kernel
theorem dX0_worthAt_157 : decode cX0_worthAt 157 = .ok (.i2l, 1) := by decide +kernel
theorem dX0_worthAt_158 : decode cX0_worthAt 158 = .ok (.ladd, 1) := by decide +kernel
theorem dX0_worthAt_159 : decode cX0_worthAt 159 = .ok (.ldiv, 1) := by decide +kernel
theorem dX0_worthAt_160 : decode cX0_worthAt 160 = .ok (.lstore 9, 2) := by decide +kernel
theorem dX0_worthAt_162 : decode cX0_worthAt 162 = .ok (.iinc 13 1, 3) := by decide +kernel
theorem dX0_worthAt_165 : decode cX0_worthAt 165 = .ok (.goto (-58), 3) := by decide +kernel
theorem dX0_worthAt_168 : decode cX0_worthAt 168 = .ok (.lload 11, 2) := by decide +kernel
theorem dX0_worthAt_170 : decode cX0_worthAt 170 = .ok (.lreturn, 1) := by decide +kernel
set_option maxRecDepth 20000 in
theorem ggX0_greatestRate_X0_worthAt : GoodIn wsX0_greatestRate wsX0_worthAt := goodIn_r _ [5, 6, 7, 8, 9, 10, 11, 12, 13, 14, 15, 16, 17, 18, 19, 20, 21, 4, 22, 23, 24, 25, 26, 27, 28, 29, 30, 31, 32, 33, 34, 35, 36, 37, 38, 39, 40, 41, 42, 43, 44, 45, 46, 47, 48, 49, 50, 51, 52, 53, 54, 55, 56, 57, 58, 59, 60, 61, 62, 63, 64, 65, 66, 67, 68, 69, 70, 71, 72, 73, 74, 75, 76, 77, 78, 79, 80, 81, 82] (by decide +kernel) (by decide +kernel)
set_option maxRecDepth 20000 in
theorem gX0_greatestRate_X0_worthAt : GoodIn wsX0_greatestRate (wsV RX0 107 RX0 yX0_worthAt wsX0_worthAt) := goodIn_app (goodIn_of _ (by decide +kernel)) ggX0_greatestRate_X0_worthAt
theorem dX0_greatestRate_0 : decode cX0_greatestRate 0 = .ok (.iconst (-1), 1) := by decide +kernel
theorem dX0_greatestRate_1 : decode cX0_greatestRate 1 = .ok (.istore 6, 2) := by decide +kernel
theorem dX0_greatestRate_3 : decode cX0_greatestRate 3 = .ok (.sipush 4096, 3) := by decide +kernel
theorem dX0_greatestRate_6 : decode cX0_greatestRate 6 = .ok (.istore 7, 2) := by decide +kernel
theorem dX0_greatestRate_8 : decode cX0_greatestRate 8 = .ok (.iload 7, 2) := by decide +kernel
theorem dX0_greatestRate_10 : decode cX0_greatestRate 10 = .ok (.ifCond .le 45, 3) := by decide +kernel
theorem dX0_greatestRate_13 : decode cX0_greatestRate 13 = .ok (.iload 6, 2) := by decide +kernel
theorem dX0_greatestRate_15 : decode cX0_greatestRate 15 = .ok (.iload 7, 2) := by decide +kernel
theorem dX0_greatestRate_17 : decode cX0_greatestRate 17 = .ok (.iadd, 1) := by decide +kernel
theorem dX0_greatestRate_18 : decode cX0_greatestRate 18 = .ok (.iload 5, 2) := by decide +kernel
theorem dX0_greatestRate_20 : decode cX0_greatestRate 20 = .ok (.if_icmp .gt 26, 3) := by decide +kernel
theorem dX0_greatestRate_23 : decode cX0_greatestRate 23 = .ok (.aload_n 0, 1) := by decide +kernel
theorem dX0_greatestRate_24 : decode cX0_greatestRate 24 = .ok (.iload_n 1, 1) := by decide +kernel
theorem dX0_greatestRate_25 : decode cX0_greatestRate 25 = .ok (.iload_n 2, 1) := by decide +kernel
theorem dX0_greatestRate_26 : decode cX0_greatestRate 26 = .ok (.iload 6, 2) := by decide +kernel
theorem dX0_greatestRate_28 : decode cX0_greatestRate 28 = .ok (.iload 7, 2) := by decide +kernel
theorem dX0_greatestRate_30 : decode cX0_greatestRate 30 = .ok (.iadd, 1) := by decide +kernel
theorem dX0_greatestRate_31 : decode cX0_greatestRate 31 = .ok (.invokevirtual 107, 3) := by decide +kernel
theorem dX0_greatestRate_34 : decode cX0_greatestRate 34 = .ok (.lload_n 3, 1) := by decide +kernel
theorem dX0_greatestRate_35 : decode cX0_greatestRate 35 = .ok (.lcmp, 1) := by decide +kernel
theorem dX0_greatestRate_36 : decode cX0_greatestRate 36 = .ok (.ifCond .lt 10, 3) := by decide +kernel
theorem dX0_greatestRate_39 : decode cX0_greatestRate 39 = .ok (.iload 6, 2) := by decide +kernel
theorem dX0_greatestRate_41 : decode cX0_greatestRate 41 = .ok (.iload 7, 2) := by decide +kernel
theorem dX0_greatestRate_43 : decode cX0_greatestRate 43 = .ok (.iadd, 1) := by decide +kernel
theorem dX0_greatestRate_44 : decode cX0_greatestRate 44 = .ok (.istore 6, 2) := by decide +kernel
theorem dX0_greatestRate_46 : decode cX0_greatestRate 46 = .ok (.iload 7, 2) := by decide +kernel
theorem dX0_greatestRate_48 : decode cX0_greatestRate 48 = .ok (.iconst 2, 1) := by decide +kernel
theorem dX0_greatestRate_49 : decode cX0_greatestRate 49 = .ok (.idiv, 1) := by decide +kernel
theorem dX0_greatestRate_50 : decode cX0_greatestRate 50 = .ok (.istore 7, 2) := by decide +kernel
theorem dX0_greatestRate_52 : decode cX0_greatestRate 52 = .ok (.goto (-44), 3) := by decide +kernel
theorem dX0_greatestRate_55 : decode cX0_greatestRate 55 = .ok (.iload 6, 2) := by decide +kernel
theorem dX0_greatestRate_57 : decode cX0_greatestRate 57 = .ok (.ireturn, 1) := by decide +kernel
set_option maxRecDepth 20000 in
theorem ggX0_yieldAt_X0_isGone : GoodIn wsX0_yieldAt wsX0_isGone := goodIn_r _ [6, 7, 112, 113, 114, 115, 116, 117, 118, 119, 120] (by decide +kernel) (by decide +kernel)
set_option maxRecDepth 20000 in
theorem gX0_yieldAt_X0_isGone : GoodIn wsX0_yieldAt (wsV RX0 34 RX0 yX0_isGone wsX0_isGone) := goodIn_app (goodIn_of _ (by decide +kernel)) ggX0_yieldAt_X0_isGone
set_option maxRecDepth 20000 in
theorem ggX0_yieldAt_X0_fullPrice : GoodIn wsX0_yieldAt wsX0_fullPrice := goodIn_r _ [11, 12, 13, 14, 15, 16, 5, 17, 1, 18, 19, 20, 21, 22, 23, 24, 25, 26, 27, 28, 29, 30, 31, 32, 33, 34, 35, 36, 37, 38, 39, 40, 41, 42, 43, 44, 45, 46, 47, 48, 49, 50, 51, 52, 53, 54, 55, 56, 57, 58, 59, 60, 61, 62, 63, 64, 65, 66, 67, 68, 69, 70, 71, 72, 73, 74, 75, 112, 113, 114, 115, 116, 117, 118, 119, 120, 121, 122, 123, 124, 125, 126, 127, 128, 129] (by decide +kernel) (by decide +kernel)
set_option maxRecDepth 20000 in
theorem gX0_yieldAt_X0_fullPrice : GoodIn wsX0_yieldAt (wsV RX0 111 RX0 yX0_fullPrice wsX0_fullPrice) := goodIn_app (goodIn_of _ (by decide +kernel)) ggX0_yieldAt_X0_fullPrice
set_option maxRecDepth 20000 in
theorem ggX0_yieldAt_X0_greatestRate : GoodIn wsX0_yieldAt wsX0_greatestRate := goodIn_r _ [79, 80, 81, 82, 5, 83, 13, 12, 84, 85, 86, 87, 88, 89, 31, 32, 25, 33, 28, 2, 3, 4, 6, 7, 90, 45, 46, 47, 48, 49, 50, 51, 91, 92, 93, 94, 18, 19, 20, 21, 95, 96, 97, 98, 41, 27, 99, 29, 100, 42, 43, 101, 102, 103, 104, 105, 106, 107, 108, 109, 110, 111, 64, 65, 66, 112, 113, 114, 115, 116, 117, 118, 119, 120, 121, 122, 123, 124, 125, 126, 127, 128, 129] (by decide +kernel) (by decide +kernel)
set_option maxRecDepth 20000 in
theorem gX0_yieldAt_X0_greatestRate : GoodIn wsX0_yieldAt (wsV RX0 114 RX0 yX0_greatestRate wsX0_greatestRate) := goodIn_app (goodIn_of _ (by decide +kernel)) ggX0_yieldAt_X0_greatestRate
theorem dX0_yieldAt_0 : decode cX0_yieldAt 0 = .ok (.aload_n 0, 1) := by decide +kernel
theorem dX0_yieldAt_1 : decode cX0_yieldAt 1 = .ok (.invokevirtual 34, 3) := by decide +kernel
theorem dX0_yieldAt_4 : decode cX0_yieldAt 4 = .ok (.ifCond .eq 7, 3) := by decide +kernel
theorem dX0_yieldAt_7 : decode cX0_yieldAt 7 = .ok (.iconst (-1), 1) := by decide +kernel
theorem dX0_yieldAt_8 : decode cX0_yieldAt 8 = .ok (.goto 21, 3) := by decide +kernel
theorem dX0_yieldAt_11 : decode cX0_yieldAt 11 = .ok (.aload_n 0, 1) := by decide +kernel
theorem dX0_yieldAt_12 : decode cX0_yieldAt 12 = .ok (.iload_n 1, 1) := by decide +kernel
theorem dX0_yieldAt_13 : decode cX0_yieldAt 13 = .ok (.aload_n 0, 1) := by decide +kernel
theorem dX0_yieldAt_14 : decode cX0_yieldAt 14 = .ok (.getfield 15, 3) := by decide +kernel
theorem dX0_yieldAt_17 : decode cX0_yieldAt 17 = .ok (.aload_n 0, 1) := by decide +kernel
theorem dX0_yieldAt_18 : decode cX0_yieldAt 18 = .ok (.iload_n 1, 1) := by decide +kernel
theorem dX0_yieldAt_19 : decode cX0_yieldAt 19 = .ok (.iload_n 2, 1) := by decide +kernel
theorem dX0_yieldAt_20 : decode cX0_yieldAt 20 = .ok (.invokevirtual 111, 3) := by decide +kernel
theorem dX0_yieldAt_23 : decode cX0_yieldAt 23 = .ok (.sipush 5000, 3) := by decide +kernel
theorem dX0_yieldAt_26 : decode cX0_yieldAt 26 = .ok (.invokevirtual 114, 3) := by decide +kernel
theorem dX0_yieldAt_29 : decode cX0_yieldAt 29 = .ok (.ireturn, 1) := by decide +kernel
theorem dX0_isCallDate_0 : decode cX0_isCallDate 0 = .ok (.aload_n 0, 1) := by decide +kernel
theorem dX0_isCallDate_1 : decode cX0_isCallDate 1 = .ok (.getfield 118, 3) := by decide +kernel
theorem dX0_isCallDate_4 : decode cX0_isCallDate 4 = .ok (.ifCond .le 41, 3) := by decide +kernel
theorem dX0_isCallDate_7 : decode cX0_isCallDate 7 = .ok (.iload_n 1, 1) := by decide +kernel
theorem dX0_isCallDate_8 : decode cX0_isCallDate 8 = .ok (.ifCond .lt 37, 3) := by decide +kernel
theorem dX0_isCallDate_11 : decode cX0_isCallDate 11 = .ok (.iload_n 1, 1) := by decide +kernel
theorem dX0_isCallDate_12 : decode cX0_isCallDate 12 = .ok (.aload_n 0, 1) := by decide +kernel
theorem dX0_isCallDate_13 : decode cX0_isCallDate 13 = .ok (.getfield 9, 3) := by decide +kernel
theorem dX0_isCallDate_16 : decode cX0_isCallDate 16 = .ok (.getfield 66, 3) := by decide +kernel
theorem dX0_isCallDate_19 : decode cX0_isCallDate 19 = .ok (.arraylength, 1) := by decide +kernel
theorem dX0_isCallDate_20 : decode cX0_isCallDate 20 = .ok (.iconst 1, 1) := by decide +kernel
theorem dX0_isCallDate_21 : decode cX0_isCallDate 21 = .ok (.isub, 1) := by decide +kernel
theorem dX0_isCallDate_22 : decode cX0_isCallDate 22 = .ok (.if_icmp .ge 23, 3) := by decide +kernel
theorem dX0_isCallDate_25 : decode cX0_isCallDate 25 = .ok (.aload_n 0, 1) := by decide +kernel
theorem dX0_isCallDate_26 : decode cX0_isCallDate 26 = .ok (.getfield 9, 3) := by decide +kernel
theorem dX0_isCallDate_29 : decode cX0_isCallDate 29 = .ok (.getfield 66, 3) := by decide +kernel
theorem dX0_isCallDate_32 : decode cX0_isCallDate 32 = .ok (.iload_n 1, 1) := by decide +kernel
theorem dX0_isCallDate_33 : decode cX0_isCallDate 33 = .ok (.iaload, 1) := by decide +kernel
theorem dX0_isCallDate_34 : decode cX0_isCallDate 34 = .ok (.aload_n 0, 1) := by decide +kernel
theorem dX0_isCallDate_35 : decode cX0_isCallDate 35 = .ok (.getfield 121, 3) := by decide +kernel
theorem dX0_isCallDate_38 : decode cX0_isCallDate 38 = .ok (.if_icmp .lt 7, 3) := by decide +kernel
theorem dX0_isCallDate_41 : decode cX0_isCallDate 41 = .ok (.iconst 1, 1) := by decide +kernel
theorem dX0_isCallDate_42 : decode cX0_isCallDate 42 = .ok (.goto 4, 3) := by decide +kernel
theorem dX0_isCallDate_45 : decode cX0_isCallDate 45 = .ok (.iconst 0, 1) := by decide +kernel
theorem dX0_isCallDate_46 : decode cX0_isCallDate 46 = .ok (.ireturn, 1) := by decide +kernel
set_option maxRecDepth 20000 in
theorem ggX0_callPayment_X0_faceOf : GoodIn wsX0_callPayment wsX0_faceOf := goodIn_r _ [6, 7, 2] (by decide +kernel) (by decide +kernel)
set_option maxRecDepth 20000 in
theorem gX0_callPayment_X0_faceOf : GoodIn wsX0_callPayment (va_wsS RX0 54 yX0_faceOf wsX0_faceOf) := goodIn_app (goodIn_of _ (by decide +kernel)) ggX0_callPayment_X0_faceOf
theorem dX0_callPayment_0 : decode cX0_callPayment 0 = .ok (.iload_n 1, 1) := by decide +kernel
theorem dX0_callPayment_1 : decode cX0_callPayment 1 = .ok (.invokestatic 54, 3) := by decide +kernel
theorem dX0_callPayment_4 : decode cX0_callPayment 4 = .ok (.aload_n 0, 1) := by decide +kernel
theorem dX0_callPayment_5 : decode cX0_callPayment 5 = .ok (.getfield 118, 3) := by decide +kernel
theorem dX0_callPayment_8 : decode cX0_callPayment 8 = .ok (.i2l, 1) := by decide +kernel
theorem dX0_callPayment_9 : decode cX0_callPayment 9 = .ok (.lmul, 1) := by decide +kernel
theorem dX0_callPayment_10 : decode cX0_callPayment 10 = .ok (.ldc2_w 52, 3) := by decide +kernel
theorem dX0_callPayment_13 : decode cX0_callPayment 13 = .ok (.ldiv, 1) := by decide +kernel
theorem dX0_callPayment_14 : decode cX0_callPayment 14 = .ok (.lreturn, 1) := by decide +kernel
set_option maxRecDepth 20000 in
theorem ggX0_firstCall_X0_isCallDate : GoodIn wsX0_firstCall wsX0_isCallDate := goodIn_r _ [8, 9, 2, 3, 10, 11, 12, 13, 14, 15, 16, 17, 18, 19, 20, 21, 22, 23, 24, 25, 26, 27, 28] (by decide +kernel) (by decide +kernel)
set_option maxRecDepth 20000 in
theorem gX0_firstCall_X0_isCallDate : GoodIn wsX0_firstCall (wsV RX0 124 RX0 yX0_isCallDate wsX0_isCallDate) := goodIn_app (goodIn_of _ (by decide +kernel)) ggX0_firstCall_X0_isCallDate
theorem dX0_firstCall_0 : decode cX0_firstCall 0 = .ok (.aload_n 0, 1) := by decide +kernel
theorem dX0_firstCall_1 : decode cX0_firstCall 1 = .ok (.getfield 25, 3) := by decide +kernel
theorem dX0_firstCall_4 : decode cX0_firstCall 4 = .ok (.istore_n 1, 1) := by decide +kernel
theorem dX0_firstCall_5 : decode cX0_firstCall 5 = .ok (.iload_n 1, 1) := by decide +kernel
theorem dX0_firstCall_6 : decode cX0_firstCall 6 = .ok (.aload_n 0, 1) := by decide +kernel
theorem dX0_firstCall_7 : decode cX0_firstCall 7 = .ok (.getfield 9, 3) := by decide +kernel
theorem dX0_firstCall_10 : decode cX0_firstCall 10 = .ok (.getfield 66, 3) := by decide +kernel
theorem dX0_firstCall_13 : decode cX0_firstCall 13 = .ok (.arraylength, 1) := by decide +kernel
theorem dX0_firstCall_14 : decode cX0_firstCall 14 = .ok (.if_icmp .ge 19, 3) := by decide +kernel
theorem dX0_firstCall_17 : decode cX0_firstCall 17 = .ok (.aload_n 0, 1) := by decide +kernel
theorem dX0_firstCall_18 : decode cX0_firstCall 18 = .ok (.iload_n 1, 1) := by decide +kernel
theorem dX0_firstCall_19 : decode cX0_firstCall 19 = .ok (.invokevirtual 124, 3) := by decide +kernel
theorem dX0_firstCall_22 : decode cX0_firstCall 22 = .ok (.ifCond .eq 5, 3) := by decide +kernel
theorem dX0_firstCall_25 : decode cX0_firstCall 25 = .ok (.iload_n 1, 1) := by decide +kernel
theorem dX0_firstCall_26 : decode cX0_firstCall 26 = .ok (.ireturn, 1) := by decide +kernel
theorem dX0_firstCall_27 : decode cX0_firstCall 27 = .ok (.iinc 1 1, 3) := by decide +kernel
theorem dX0_firstCall_30 : decode cX0_firstCall 30 = .ok (.goto (-25), 3) := by decide +kernel
theorem dX0_firstCall_33 : decode cX0_firstCall 33 = .ok (.iconst (-1), 1) := by decide +kernel
theorem dX0_firstCall_34 : decode cX0_firstCall 34 = .ok (.ireturn, 1) := by decide +kernel
set_option maxRecDepth 20000 in
theorem ggX0_rateOfCall_X0_isGone : GoodIn wsX0_rateOfCall wsX0_isGone := goodIn_r _ [7, 8, 89, 90, 91, 92, 93, 94, 95, 96, 97] (by decide +kernel) (by decide +kernel)
set_option maxRecDepth 20000 in
theorem gX0_rateOfCall_X0_isGone : GoodIn wsX0_rateOfCall (wsV RX0 34 RX0 yX0_isGone wsX0_isGone) := goodIn_app (goodIn_of _ (by decide +kernel)) ggX0_rateOfCall_X0_isGone
set_option maxRecDepth 20000 in
theorem ggX0_rateOfCall_X0_firstCall : GoodIn wsX0_rateOfCall wsX0_firstCall := goodIn_r _ [12, 13, 1, 2, 14, 15, 16, 6, 17, 18, 19, 89, 90, 91, 92, 93, 94, 95, 96, 97, 98, 99, 100, 101, 102, 103, 104, 105, 106] (by decide +kernel) (by decide +kernel)
set_option maxRecDepth 20000 in
theorem gX0_rateOfCall_X0_firstCall : GoodIn wsX0_rateOfCall (wsV RX0 127 RX0 yX0_firstCall wsX0_firstCall) := goodIn_app (goodIn_of _ (by decide +kernel)) ggX0_rateOfCall_X0_firstCall
set_option maxRecDepth 20000 in
theorem ggX0_rateOfCall_X0_factorBehind : GoodIn wsX0_rateOfCall wsX0_factorBehind := goodIn_r _ [23, 24, 13, 25, 26, 27, 6, 28, 1, 2, 29, 30, 31, 32, 33, 34, 89, 90, 91, 92, 93, 94, 95, 96, 97, 98, 99, 100, 101, 102, 103, 104, 105, 106] (by decide +kernel) (by decide +kernel)
set_option maxRecDepth 20000 in
theorem gX0_rateOfCall_X0_factorBehind : GoodIn wsX0_rateOfCall (wsV RX0 131 RX0 yX0_factorBehind wsX0_factorBehind) := goodIn_app (goodIn_of _ (by decide +kernel)) ggX0_rateOfCall_X0_factorBehind
set_option maxRecDepth 20000 in
theorem ggX0_rateOfCall_X0_callPayment : GoodIn wsX0_rateOfCall wsX0_callPayment := goodIn_r _ [38, 18, 39, 40, 41, 6, 42, 43, 89, 90, 91, 92, 93, 94, 95, 96, 97] (by decide +kernel) (by decide +kernel)
set_option maxRecDepth 20000 in
theorem gX0_rateOfCall_X0_callPayment : GoodIn wsX0_rateOfCall (wsV RX0 134 RX0 yX0_callPayment wsX0_callPayment) := goodIn_app (goodIn_of _ (by decide +kernel)) ggX0_rateOfCall_X0_callPayment
set_option maxRecDepth 20000 in
theorem ggX0_rateOfCall_X0_greatestRate : GoodIn wsX0_rateOfCall wsX0_greatestRate := goodIn_r _ [47, 48, 49, 50, 6, 51, 1, 39, 52, 2, 53, 54, 55, 56, 57, 58, 59, 60, 61, 3, 4, 5, 7, 8, 62, 63, 64, 65, 66, 67, 68, 69, 70, 71, 72, 73, 40, 41, 42, 43, 74, 75, 76, 77, 78, 79, 80, 81, 82, 83, 84, 85, 86, 87, 88, 25, 26, 27, 28, 29, 30, 31, 32, 33, 34, 89, 90, 91, 92, 93, 94, 95, 96, 97, 98, 99, 100, 101, 102, 103, 104, 105, 106] (by decide +kernel) (by decide +kernel)
set_option maxRecDepth 20000 in
theorem gX0_rateOfCall_X0_greatestRate : GoodIn wsX0_rateOfCall (wsV RX0 114 RX0 yX0_greatestRate wsX0_greatestRate) := goodIn_app (goodIn_of _ (by decide +kernel)) ggX0_rateOfCall_X0_greatestRate
theorem dX0_rateOfCall_0 : decode cX0_rateOfCall 0 = .ok (.aload_n 0, 1) := by decide +kernel
theorem dX0_rateOfCall_1 : decode cX0_rateOfCall 1 = .ok (.invokevirtual 34, 3) := by decide +kernel
theorem dX0_rateOfCall_4 : decode cX0_rateOfCall 4 = .ok (.ifCond .eq 7, 3) := by decide +kernel
theorem dX0_rateOfCall_7 : decode cX0_rateOfCall 7 = .ok (.iconst (-1), 1) := by decide +kernel
theorem dX0_rateOfCall_8 : decode cX0_rateOfCall 8 = .ok (.goto 7, 3) := by decide +kernel
theorem dX0_rateOfCall_11 : decode cX0_rateOfCall 11 = .ok (.aload_n 0, 1) := by decide +kernel
theorem dX0_rateOfCall_12 : decode cX0_rateOfCall 12 = .ok (.invokevirtual 127, 3) := by decide +kernel
theorem dX0_rateOfCall_15 : decode cX0_rateOfCall 15 = .ok (.istore_n 1, 1) := by decide +kernel
theorem dX0_rateOfCall_16 : decode cX0_rateOfCall 16 = .ok (.aload_n 0, 1) := by decide +kernel
theorem dX0_rateOfCall_17 : decode cX0_rateOfCall 17 = .ok (.iload_n 1, 1) := by decide +kernel
theorem dX0_rateOfCall_18 : decode cX0_rateOfCall 18 = .ok (.invokevirtual 131, 3) := by decide +kernel
theorem dX0_rateOfCall_21 : decode cX0_rateOfCall 21 = .ok (.istore_n 2, 1) := by decide +kernel
theorem dX0_rateOfCall_22 : decode cX0_rateOfCall 22 = .ok (.iload_n 1, 1) := by decide +kernel
theorem dX0_rateOfCall_23 : decode cX0_rateOfCall 23 = .ok (.ifCond .lt 19, 3) := by decide +kernel
theorem dX0_rateOfCall_26 : decode cX0_rateOfCall 26 = .ok (.iload_n 1, 1) := by decide +kernel
theorem dX0_rateOfCall_27 : decode cX0_rateOfCall 27 = .ok (.aload_n 0, 1) := by decide +kernel
theorem dX0_rateOfCall_28 : decode cX0_rateOfCall 28 = .ok (.getfield 9, 3) := by decide +kernel
theorem dX0_rateOfCall_31 : decode cX0_rateOfCall 31 = .ok (.getfield 66, 3) := by decide +kernel
theorem dX0_rateOfCall_34 : decode cX0_rateOfCall 34 = .ok (.arraylength, 1) := by decide +kernel
theorem dX0_rateOfCall_35 : decode cX0_rateOfCall 35 = .ok (.if_icmp .ge 7, 3) := by decide +kernel
theorem dX0_rateOfCall_38 : decode cX0_rateOfCall 38 = .ok (.iload_n 2, 1) := by decide +kernel
theorem dX0_rateOfCall_39 : decode cX0_rateOfCall 39 = .ok (.ifCond .ne 5, 3) := by decide +kernel
theorem dX0_rateOfCall_42 : decode cX0_rateOfCall 42 = .ok (.iconst (-1), 1) := by decide +kernel
theorem dX0_rateOfCall_43 : decode cX0_rateOfCall 43 = .ok (.ireturn, 1) := by decide +kernel
theorem dX0_rateOfCall_44 : decode cX0_rateOfCall 44 = .ok (.aload_n 0, 1) := by decide +kernel
theorem dX0_rateOfCall_45 : decode cX0_rateOfCall 45 = .ok (.aload_n 0, 1) := by decide +kernel
theorem dX0_rateOfCall_46 : decode cX0_rateOfCall 46 = .ok (.getfield 9, 3) := by decide +kernel
theorem dX0_rateOfCall_49 : decode cX0_rateOfCall 49 = .ok (.getfield 66, 3) := by decide +kernel
theorem dX0_rateOfCall_52 : decode cX0_rateOfCall 52 = .ok (.iload_n 1, 1) := by decide +kernel
theorem dX0_rateOfCall_53 : decode cX0_rateOfCall 53 = .ok (.iaload, 1) := by decide +kernel
theorem dX0_rateOfCall_54 : decode cX0_rateOfCall 54 = .ok (.iload_n 2, 1) := by decide +kernel
theorem dX0_rateOfCall_55 : decode cX0_rateOfCall 55 = .ok (.aload_n 0, 1) := by decide +kernel
theorem dX0_rateOfCall_56 : decode cX0_rateOfCall 56 = .ok (.iload_n 2, 1) := by decide +kernel
theorem dX0_rateOfCall_57 : decode cX0_rateOfCall 57 = .ok (.invokevirtual 134, 3) := by decide +kernel
theorem dX0_rateOfCall_60 : decode cX0_rateOfCall 60 = .ok (.lconst 1, 1) := by decide +kernel
theorem dX0_rateOfCall_61 : decode cX0_rateOfCall 61 = .ok (.ladd, 1) := by decide +kernel
theorem dX0_rateOfCall_62 : decode cX0_rateOfCall 62 = .ok (.sipush 2000, 3) := by decide +kernel
theorem dX0_rateOfCall_65 : decode cX0_rateOfCall 65 = .ok (.invokevirtual 114, 3) := by decide +kernel
theorem dX0_rateOfCall_68 : decode cX0_rateOfCall 68 = .ok (.ireturn, 1) := by decide +kernel
set_option maxRecDepth 20000 in
theorem ggX0_lookUpTo_X0_isGone : GoodIn wsX0_lookUpTo wsX0_isGone := goodIn_r _ [8, 9, 94, 95, 96, 97, 98, 99, 100, 101, 102] (by decide +kernel) (by decide +kernel)
set_option maxRecDepth 20000 in
theorem gX0_lookUpTo_X0_isGone : GoodIn wsX0_lookUpTo (wsV RX0 34 RX0 yX0_isGone wsX0_isGone) := goodIn_app (goodIn_of _ (by decide +kernel)) ggX0_lookUpTo_X0_isGone
set_option maxRecDepth 20000 in
theorem ggX0_lookUpTo_X0_lookAt : GoodIn wsX0_lookUpTo wsX0_lookAt := goodIn_r _ [13, 14, 15, 2, 1, 16, 17, 18, 3, 19, 20, 21, 22, 7, 23, 24, 25, 26, 27, 28, 29, 30, 31, 32, 33, 34, 35, 36, 37, 38, 39, 40, 41, 42, 43, 44, 45, 46, 47, 48, 9, 49, 50, 51, 52, 53, 54, 55, 56, 57, 58, 59, 60, 61, 62, 63, 64, 65, 66, 67, 68, 69, 70, 71, 72, 73, 74, 75, 76, 77, 4, 5, 6, 8, 78, 79, 80, 81, 82, 83, 84, 85, 86, 87, 88, 89, 90, 91, 92, 93, 112, 113, 114, 115, 94, 95, 96, 97, 98, 99, 100, 101, 102, 103, 104, 105, 106, 107, 108, 109, 110, 111] (by decide +kernel) (by decide +kernel)
set_option maxRecDepth 20000 in
theorem gX0_lookUpTo_X0_lookAt : GoodIn wsX0_lookUpTo (wsV RX0 137 RX0 yX0_lookAt wsX0_lookAt) := goodIn_app (goodIn_of _ (by decide +kernel)) ggX0_lookUpTo_X0_lookAt
theorem dX0_lookUpTo_0 : decode cX0_lookUpTo 0 = .ok (.aload_n 0, 1) := by decide +kernel
theorem dX0_lookUpTo_1 : decode cX0_lookUpTo 1 = .ok (.getfield 25, 3) := by decide +kernel
theorem dX0_lookUpTo_4 : decode cX0_lookUpTo 4 = .ok (.istore 4, 2) := by decide +kernel
theorem dX0_lookUpTo_6 : decode cX0_lookUpTo 6 = .ok (.iload 4, 2) := by decide +kernel
theorem dX0_lookUpTo_8 : decode cX0_lookUpTo 8 = .ok (.ifCond .lt 52, 3) := by decide +kernel
theorem dX0_lookUpTo_11 : decode cX0_lookUpTo 11 = .ok (.iload 4, 2) := by decide +kernel
theorem dX0_lookUpTo_13 : decode cX0_lookUpTo 13 = .ok (.aload_n 0, 1) := by decide +kernel
theorem dX0_lookUpTo_14 : decode cX0_lookUpTo 14 = .ok (.getfield 9, 3) := by decide +kernel
theorem dX0_lookUpTo_17 : decode cX0_lookUpTo 17 = .ok (.getfield 66, 3) := by decide +kernel
theorem dX0_lookUpTo_20 : decode cX0_lookUpTo 20 = .ok (.arraylength, 1) := by decide +kernel
theorem dX0_lookUpTo_21 : decode cX0_lookUpTo 21 = .ok (.if_icmp .ge 39, 3) := by decide +kernel
theorem dX0_lookUpTo_24 : decode cX0_lookUpTo 24 = .ok (.aload_n 0, 1) := by decide +kernel
theorem dX0_lookUpTo_25 : decode cX0_lookUpTo 25 = .ok (.invokevirtual 34, 3) := by decide +kernel
theorem dX0_lookUpTo_28 : decode cX0_lookUpTo 28 = .ok (.ifCond .ne 17, 3) := by decide +kernel
theorem dX0_lookUpTo_31 : decode cX0_lookUpTo 31 = .ok (.aload_n 0, 1) := by decide +kernel
theorem dX0_lookUpTo_32 : decode cX0_lookUpTo 32 = .ok (.getfield 9, 3) := by decide +kernel
theorem dX0_lookUpTo_35 : decode cX0_lookUpTo 35 = .ok (.getfield 66, 3) := by decide +kernel
theorem dX0_lookUpTo_38 : decode cX0_lookUpTo 38 = .ok (.iload 4, 2) := by decide +kernel
theorem dX0_lookUpTo_40 : decode cX0_lookUpTo 40 = .ok (.iaload, 1) := by decide +kernel
theorem dX0_lookUpTo_41 : decode cX0_lookUpTo 41 = .ok (.iload_n 1, 1) := by decide +kernel
theorem dX0_lookUpTo_42 : decode cX0_lookUpTo 42 = .ok (.if_icmp .le 4, 3) := by decide +kernel
theorem dX0_lookUpTo_45 : decode cX0_lookUpTo 45 = .ok (.return_, 1) := by decide +kernel
theorem dX0_lookUpTo_46 : decode cX0_lookUpTo 46 = .ok (.aload_n 0, 1) := by decide +kernel
theorem dX0_lookUpTo_47 : decode cX0_lookUpTo 47 = .ok (.iload 4, 2) := by decide +kernel
theorem dX0_lookUpTo_49 : decode cX0_lookUpTo 49 = .ok (.iload_n 2, 1) := by decide +kernel
theorem dX0_lookUpTo_50 : decode cX0_lookUpTo 50 = .ok (.aload_n 3, 1) := by decide +kernel
theorem dX0_lookUpTo_51 : decode cX0_lookUpTo 51 = .ok (.invokevirtual 137, 3) := by decide +kernel
theorem dX0_lookUpTo_54 : decode cX0_lookUpTo 54 = .ok (.iinc 4 1, 3) := by decide +kernel
theorem dX0_lookUpTo_57 : decode cX0_lookUpTo 57 = .ok (.goto (-51), 3) := by decide +kernel
theorem dX0_lookUpTo_60 : decode cX0_lookUpTo 60 = .ok (.return_, 1) := by decide +kernel
set_option maxRecDepth 20000 in
theorem ggX0_lookAt_X0_face : GoodIn wsX0_lookAt wsX0_face := goodIn_r _ [14, 6, 15, 16, 13, 17, 18, 19, 94, 95, 96, 97, 98, 99, 100, 101, 102] (by decide +kernel) (by decide +kernel)
set_option maxRecDepth 20000 in
theorem gX0_lookAt_X0_face : GoodIn wsX0_lookAt (wsV RX0 58 RX0 yX0_face wsX0_face) := goodIn_app (goodIn_of _ (by decide +kernel)) ggX0_lookAt_X0_face
set_option maxRecDepth 20000 in
theorem ggX0_lookAt_X3_couponFor : GoodIn wsX0_lookAt wsX3_couponFor := goodIn_r _ [24, 25, 26, 27, 28, 29, 30, 31, 103, 104, 105, 106, 107, 108, 109, 110, 111] (by decide +kernel) (by decide +kernel)
set_option maxRecDepth 20000 in
theorem gX0_lookAt_X3_couponFor : GoodIn wsX0_lookAt (wsV RX0 82 RX3 yX3_couponFor wsX3_couponFor) := goodIn_app (goodIn_of _ (by decide +kernel)) ggX0_lookAt_X3_couponFor
set_option maxRecDepth 20000 in
theorem ggX0_lookAt_X0_isEnd : GoodIn wsX0_lookAt wsX0_isEnd := goodIn_r _ [35, 3, 8, 94, 95, 96, 97, 98, 99, 100, 101, 102, 103, 104, 105, 106, 107, 108, 109, 110, 111] (by decide +kernel) (by decide +kernel)
set_option maxRecDepth 20000 in
theorem gX0_lookAt_X0_isEnd : GoodIn wsX0_lookAt (wsV RX0 85 RX0 yX0_isEnd wsX0_isEnd) := goodIn_app (goodIn_of _ (by decide +kernel)) ggX0_lookAt_X0_isEnd
set_option maxRecDepth 20000 in
theorem ggX0_lookAt_X0_leave : GoodIn wsX0_lookAt wsX0_leave := goodIn_r _ [39, 40, 2, 94, 95, 96, 97, 98, 99, 100, 101, 102] (by decide +kernel) (by decide +kernel)
set_option maxRecDepth 20000 in
theorem gX0_lookAt_X0_leave : GoodIn wsX0_lookAt (wsV RX0 153 RX0 yX0_leave wsX0_leave) := goodIn_app (goodIn_of _ (by decide +kernel)) ggX0_lookAt_X0_leave
set_option maxRecDepth 20000 in
theorem ggX0_lookAt_X0_sunkOn : GoodIn wsX0_lookAt wsX0_sunkOn := goodIn_r _ [44, 3, 8, 45, 46, 47, 48, 49, 50, 94, 95, 96, 97, 98, 99, 100, 101, 102, 103, 104, 105, 106, 107, 108, 109, 110, 111] (by decide +kernel) (by decide +kernel)
set_option maxRecDepth 20000 in
theorem gX0_lookAt_X0_sunkOn : GoodIn wsX0_lookAt (wsV RX0 88 RX0 yX0_sunkOn wsX0_sunkOn) := goodIn_app (goodIn_of _ (by decide +kernel)) ggX0_lookAt_X0_sunkOn
set_option maxRecDepth 20000 in
theorem ggX0_lookAt_X0_faceOf : GoodIn wsX0_lookAt wsX0_faceOf := goodIn_r _ [17, 18, 19] (by decide +kernel) (by decide +kernel)
set_option maxRecDepth 20000 in
theorem gX0_lookAt_X0_faceOf : GoodIn wsX0_lookAt (va_wsS RX0 54 yX0_faceOf wsX0_faceOf) := goodIn_app (goodIn_of _ (by decide +kernel)) ggX0_lookAt_X0_faceOf
set_option maxRecDepth 20000 in
theorem ggX0_lookAt_X0_isCallDate : GoodIn wsX0_lookAt wsX0_isCallDate := goodIn_r _ [54, 55, 3, 8, 56, 94, 95, 96, 97, 98, 99, 100, 101, 102, 103, 104, 105, 106, 107, 108, 109, 110, 111] (by decide +kernel) (by decide +kernel)
set_option maxRecDepth 20000 in
theorem gX0_lookAt_X0_isCallDate : GoodIn wsX0_lookAt (wsV RX0 124 RX0 yX0_isCallDate wsX0_isCallDate) := goodIn_app (goodIn_of _ (by decide +kernel)) ggX0_lookAt_X0_isCallDate
set_option maxRecDepth 20000 in
theorem ggX0_lookAt_X0_worthAt : GoodIn wsX0_lookAt wsX0_worthAt := goodIn_r _ [60, 3, 19, 61, 8, 62, 63, 64, 65, 66, 67, 23, 68, 69, 70, 71, 72, 13, 73, 40, 74, 75, 76, 77, 78, 79, 80, 81, 82, 83, 84, 85, 15, 16, 17, 18, 20, 21, 22, 24, 25, 26, 27, 28, 29, 30, 31, 32, 33, 34, 35, 41, 42, 43, 44, 45, 46, 47, 48, 49, 50, 94, 95, 96, 97, 98, 99, 100, 101, 102, 103, 104, 105, 106, 107, 108, 109, 110, 111] (by decide +kernel) (by decide +kernel)
set_option maxRecDepth 20000 in
theorem gX0_lookAt_X0_worthAt : GoodIn wsX0_lookAt (wsV RX0 107 RX0 yX0_worthAt wsX0_worthAt) := goodIn_app (goodIn_of _ (by decide +kernel)) ggX0_lookAt_X0_worthAt
set_option maxRecDepth 20000 in
theorem ggX0_lookAt_X0_callPayment : GoodIn wsX0_lookAt wsX0_callPayment := goodIn_r _ [89, 55, 19, 15, 16, 13, 17, 18, 94, 95, 96, 97, 98, 99, 100, 101, 102] (by decide +kernel) (by decide +kernel)
set_option maxRecDepth 20000 in
theorem gX0_lookAt_X0_callPayment : GoodIn wsX0_lookAt (wsV RX0 134 RX0 yX0_callPayment wsX0_callPayment) := goodIn_app (goodIn_of _ (by decide +kernel)) ggX0_lookAt_X0_callPayment
theorem dX0_lookAt_0 : decode cX0_lookAt 0 = .ok (.aload_n 3, 1) := by decide +kernel
theorem dX0_lookAt_1 : decode cX0_lookAt 1 = .ok (.dup, 1) := by decide +kernel
theorem dX0_lookAt_2 : decode cX0_lookAt 2 = .ok (.getfield 141, 3) := by decide +kernel
theorem dX0_lookAt_5 : decode cX0_lookAt 5 = .ok (.aload_n 0, 1) := by decide +kernel
theorem dX0_lookAt_6 : decode cX0_lookAt 6 = .ok (.getfield 147, 3) := by decide +kernel
theorem dX0_lookAt_9 : decode cX0_lookAt 9 = .ok (.i2l, 1) := by decide +kernel
theorem dX0_lookAt_10 : decode cX0_lookAt 10 = .ok (.aload_n 0, 1) := by decide +kernel
theorem dX0_lookAt_11 : decode cX0_lookAt 11 = .ok (.getfield 9, 3) := by decide +kernel
theorem dX0_lookAt_14 : decode cX0_lookAt 14 = .ok (.iload_n 1, 1) := by decide +kernel
theorem dX0_lookAt_15 : decode cX0_lookAt 15 = .ok (.aload_n 0, 1) := by decide +kernel
theorem dX0_lookAt_16 : decode cX0_lookAt 16 = .ok (.invokevirtual 58, 3) := by decide +kernel
theorem dX0_lookAt_19 : decode cX0_lookAt 19 = .ok (.invokevirtual 82, 3) := by decide +kernel
theorem dX0_lookAt_22 : decode cX0_lookAt 22 = .ok (.lmul, 1) := by decide +kernel
theorem dX0_lookAt_23 : decode cX0_lookAt 23 = .ok (.ladd, 1) := by decide +kernel
theorem dX0_lookAt_24 : decode cX0_lookAt 24 = .ok (.putfield 141, 3) := by decide +kernel
theorem dX0_lookAt_27 : decode cX0_lookAt 27 = .ok (.aload_n 0, 1) := by decide +kernel
theorem dX0_lookAt_28 : decode cX0_lookAt 28 = .ok (.iload_n 1, 1) := by decide +kernel
theorem dX0_lookAt_29 : decode cX0_lookAt 29 = .ok (.iconst 1, 1) := by decide +kernel
theorem dX0_lookAt_30 : decode cX0_lookAt 30 = .ok (.iadd, 1) := by decide +kernel
theorem dX0_lookAt_31 : decode cX0_lookAt 31 = .ok (.putfield 25, 3) := by decide +kernel
theorem dX0_lookAt_34 : decode cX0_lookAt 34 = .ok (.aload_n 0, 1) := by decide +kernel
theorem dX0_lookAt_35 : decode cX0_lookAt 35 = .ok (.iload_n 1, 1) := by decide +kernel
theorem dX0_lookAt_36 : decode cX0_lookAt 36 = .ok (.invokevirtual 85, 3) := by decide +kernel
theorem dX0_lookAt_39 : decode cX0_lookAt 39 = .ok (.ifCond .eq 28, 3) := by decide +kernel
theorem dX0_lookAt_42 : decode cX0_lookAt 42 = .ok (.aload_n 3, 1) := by decide +kernel
theorem dX0_lookAt_43 : decode cX0_lookAt 43 = .ok (.dup, 1) := by decide +kernel
theorem dX0_lookAt_44 : decode cX0_lookAt 44 = .ok (.getfield 150, 3) := by decide +kernel
theorem dX0_lookAt_47 : decode cX0_lookAt 47 = .ok (.aload_n 0, 1) := by decide +kernel
theorem dX0_lookAt_48 : decode cX0_lookAt 48 = .ok (.getfield 147, 3) := by decide +kernel
theorem dX0_lookAt_51 : decode cX0_lookAt 51 = .ok (.i2l, 1) := by decide +kernel
theorem dX0_lookAt_52 : decode cX0_lookAt 52 = .ok (.aload_n 0, 1) := by decide +kernel
theorem dX0_lookAt_53 : decode cX0_lookAt 53 = .ok (.invokevirtual 58, 3) := by decide +kernel
theorem dX0_lookAt_56 : decode cX0_lookAt 56 = .ok (.lmul, 1) := by decide +kernel
theorem dX0_lookAt_57 : decode cX0_lookAt 57 = .ok (.ladd, 1) := by decide +kernel
theorem dX0_lookAt_58 : decode cX0_lookAt 58 = .ok (.putfield 150, 3) := by decide +kernel
theorem dX0_lookAt_61 : decode cX0_lookAt 61 = .ok (.aload_n 0, 1) := by decide +kernel
theorem dX0_lookAt_62 : decode cX0_lookAt 62 = .ok (.iconst 1, 1) := by decide +kernel
theorem dX0_lookAt_63 : decode cX0_lookAt 63 = .ok (.invokevirtual 153, 3) := by decide +kernel
theorem dX0_lookAt_66 : decode cX0_lookAt 66 = .ok (.return_, 1) := by decide +kernel
theorem dX0_lookAt_67 : decode cX0_lookAt 67 = .ok (.aload_n 0, 1) := by decide +kernel
theorem dX0_lookAt_68 : decode cX0_lookAt 68 = .ok (.iload_n 1, 1) := by decide +kernel
theorem dX0_lookAt_69 : decode cX0_lookAt 69 = .ok (.aload_n 0, 1) := by decide +kernel
theorem dX0_lookAt_70 : decode cX0_lookAt 70 = .ok (.getfield 15, 3) := by decide +kernel
theorem dX0_lookAt_73 : decode cX0_lookAt 73 = .ok (.invokevirtual 88, 3) := by decide +kernel
theorem dX0_lookAt_76 : decode cX0_lookAt 76 = .ok (.istore 4, 2) := by decide +kernel
theorem dX0_lookAt_78 : decode cX0_lookAt 78 = .ok (.aload_n 3, 1) := by decide +kernel
theorem dX0_lookAt_79 : decode cX0_lookAt 79 = .ok (.dup, 1) := by decide +kernel
theorem dX0_lookAt_80 : decode cX0_lookAt 80 = .ok (.getfield 157, 3) := by decide +kernel
theorem dX0_lookAt_83 : decode cX0_lookAt 83 = .ok (.aload_n 0, 1) := by decide +kernel
theorem dX0_lookAt_84 : decode cX0_lookAt 84 = .ok (.getfield 147, 3) := by decide +kernel
theorem dX0_lookAt_87 : decode cX0_lookAt 87 = .ok (.i2l, 1) := by decide +kernel
theorem dX0_lookAt_88 : decode cX0_lookAt 88 = .ok (.iload 4, 2) := by decide +kernel
theorem dX0_lookAt_90 : decode cX0_lookAt 90 = .ok (.invokestatic 54, 3) := by decide +kernel
theorem dX0_lookAt_93 : decode cX0_lookAt 93 = .ok (.lmul, 1) := by decide +kernel
theorem dX0_lookAt_94 : decode cX0_lookAt 94 = .ok (.ladd, 1) := by decide +kernel
theorem dX0_lookAt_95 : decode cX0_lookAt 95 = .ok (.putfield 157, 3) := by decide +kernel
theorem dX0_lookAt_98 : decode cX0_lookAt 98 = .ok (.aload_n 0, 1) := by decide +kernel
theorem dX0_lookAt_99 : decode cX0_lookAt 99 = .ok (.dup, 1) := by decide +kernel
theorem dX0_lookAt_100 : decode cX0_lookAt 100 = .ok (.getfield 15, 3) := by decide +kernel
theorem dX0_lookAt_103 : decode cX0_lookAt 103 = .ok (.iload 4, 2) := by decide +kernel
theorem dX0_lookAt_105 : decode cX0_lookAt 105 = .ok (.isub, 1) := by decide +kernel
theorem dX0_lookAt_106 : decode cX0_lookAt 106 = .ok (.putfield 15, 3) := by decide +kernel
theorem dX0_lookAt_109 : decode cX0_lookAt 109 = .ok (.aload_n 0, 1) := by decide +kernel
theorem dX0_lookAt_110 : decode cX0_lookAt 110 = .ok (.getfield 15, 3) := by decide +kernel
theorem dX0_lookAt_113 : decode cX0_lookAt 113 = .ok (.ifCond .ne 11, 3) := by decide +kernel
theorem dX0_lookAt_116 : decode cX0_lookAt 116 = .ok (.aload_n 0, 1) := by decide +kernel
theorem dX0_lookAt_117 : decode cX0_lookAt 117 = .ok (.iconst 1, 1) := by decide +kernel
theorem dX0_lookAt_118 : decode cX0_lookAt 118 = .ok (.invokevirtual 153, 3) := by decide +kernel
theorem dX0_lookAt_121 : decode cX0_lookAt 121 = .ok (.goto 69, 3) := by decide +kernel
theorem dX0_lookAt_124 : decode cX0_lookAt 124 = .ok (.aload_n 0, 1) := by decide +kernel
theorem dX0_lookAt_125 : decode cX0_lookAt 125 = .ok (.iload_n 1, 1) := by decide +kernel
theorem dX0_lookAt_126 : decode cX0_lookAt 126 = .ok (.invokevirtual 124, 3) := by decide +kernel
theorem dX0_lookAt_129 : decode cX0_lookAt 129 = .ok (.ifCond .eq 61, 3) := by decide +kernel
theorem dX0_lookAt_132 : decode cX0_lookAt 132 = .ok (.aload_n 0, 1) := by decide +kernel
theorem dX0_lookAt_133 : decode cX0_lookAt 133 = .ok (.aload_n 0, 1) := by decide +kernel
theorem dX0_lookAt_134 : decode cX0_lookAt 134 = .ok (.getfield 9, 3) := by decide +kernel
theorem dX0_lookAt_137 : decode cX0_lookAt 137 = .ok (.getfield 66, 3) := by decide +kernel
theorem dX0_lookAt_140 : decode cX0_lookAt 140 = .ok (.iload_n 1, 1) := by decide +kernel
theorem dX0_lookAt_141 : decode cX0_lookAt 141 = .ok (.iaload, 1) := by decide +kernel
theorem dX0_lookAt_142 : decode cX0_lookAt 142 = .ok (.aload_n 0, 1) := by decide +kernel
theorem dX0_lookAt_143 : decode cX0_lookAt 143 = .ok (.getfield 15, 3) := by decide +kernel
theorem dX0_lookAt_146 : decode cX0_lookAt 146 = .ok (.iload_n 2, 1) := by decide +kernel
theorem dX0_lookAt_147 : decode cX0_lookAt 147 = .ok (.invokevirtual 107, 3) := by decide +kernel
theorem dX0_lookAt_150 : decode cX0_lookAt 150 = .ok (.aload_n 0, 1) := by decide +kernel
theorem dX0_lookAt_151 : decode cX0_lookAt 151 = .ok (.aload_n 0, 1) := by decide +kernel
theorem dX0_lookAt_152 : decode cX0_lookAt 152 = .ok (.getfield 15, 3) := by decide +kernel
theorem dX0_lookAt_155 : decode cX0_lookAt 155 = .ok (.invokevirtual 134, 3) := by decide +kernel
theorem dX0_lookAt_158 : decode cX0_lookAt 158 = .ok (.lcmp, 1) := by decide +kernel
theorem dX0_lookAt_159 : decode cX0_lookAt 159 = .ok (.ifCond .le 31, 3) := by decide +kernel
theorem dX0_lookAt_162 : decode cX0_lookAt 162 = .ok (.aload_n 3, 1) := by decide +kernel
theorem dX0_lookAt_163 : decode cX0_lookAt 163 = .ok (.dup, 1) := by decide +kernel
theorem dX0_lookAt_164 : decode cX0_lookAt 164 = .ok (.getfield 160, 3) := by decide +kernel
theorem dX0_lookAt_167 : decode cX0_lookAt 167 = .ok (.aload_n 0, 1) := by decide +kernel
theorem dX0_lookAt_168 : decode cX0_lookAt 168 = .ok (.getfield 147, 3) := by decide +kernel
theorem dX0_lookAt_171 : decode cX0_lookAt 171 = .ok (.i2l, 1) := by decide +kernel
theorem dX0_lookAt_172 : decode cX0_lookAt 172 = .ok (.aload_n 0, 1) := by decide +kernel
theorem dX0_lookAt_173 : decode cX0_lookAt 173 = .ok (.aload_n 0, 1) := by decide +kernel
theorem dX0_lookAt_174 : decode cX0_lookAt 174 = .ok (.getfield 15, 3) := by decide +kernel
theorem dX0_lookAt_177 : decode cX0_lookAt 177 = .ok (.invokevirtual 134, 3) := by decide +kernel
theorem dX0_lookAt_180 : decode cX0_lookAt 180 = .ok (.lmul, 1) := by decide +kernel
theorem dX0_lookAt_181 : decode cX0_lookAt 181 = .ok (.ladd, 1) := by decide +kernel
theorem dX0_lookAt_182 : decode cX0_lookAt 182 = .ok (.putfield 160, 3) := by decide +kernel
theorem dX0_lookAt_185 : decode cX0_lookAt 185 = .ok (.aload_n 0, 1) := by decide +kernel
theorem dX0_lookAt_186 : decode cX0_lookAt 186 = .ok (.iconst 2, 1) := by decide +kernel
theorem dX0_lookAt_187 : decode cX0_lookAt 187 = .ok (.invokevirtual 153, 3) := by decide +kernel
theorem dX0_lookAt_190 : decode cX0_lookAt 190 = .ok (.return_, 1) := by decide +kernel
theorem dX0_leave_0 : decode cX0_leave 0 = .ok (.aload_n 0, 1) := by decide +kernel
theorem dX0_leave_1 : decode cX0_leave 1 = .ok (.iload_n 1, 1) := by decide +kernel
theorem dX0_leave_2 : decode cX0_leave 2 = .ok (.putfield 28, 3) := by decide +kernel
theorem dX0_leave_5 : decode cX0_leave 5 = .ok (.aload_n 0, 1) := by decide +kernel
theorem dX0_leave_6 : decode cX0_leave 6 = .ok (.iconst 0, 1) := by decide +kernel
theorem dX0_leave_7 : decode cX0_leave 7 = .ok (.putfield 147, 3) := by decide +kernel
theorem dX0_leave_10 : decode cX0_leave 10 = .ok (.return_, 1) := by decide +kernel
set_option maxRecDepth 20000 in
theorem ggX0_paymentsIn_X3_firstBehind : GoodIn wsX0_paymentsIn wsX3_firstBehind := goodIn_r _ [8, 9, 58, 59, 60, 61, 62, 63, 64, 65, 66] (by decide +kernel) (by decide +kernel)
set_option maxRecDepth 20000 in
theorem gX0_paymentsIn_X3_firstBehind : GoodIn wsX0_paymentsIn (wsV RX0 19 RX3 yX3_firstBehind wsX3_firstBehind) := goodIn_app (goodIn_of _ (by decide +kernel)) ggX0_paymentsIn_X3_firstBehind
set_option maxRecDepth 20000 in
theorem ggX0_paymentsIn_X1_yearOf : GoodIn wsX0_paymentsIn wsX1_yearOf := goodIn_r _ [13] (by decide +kernel) (by decide +kernel)
set_option maxRecDepth 20000 in
theorem gX0_paymentsIn_X1_yearOf : GoodIn wsX0_paymentsIn (va_wsS RX0 45 yX1_yearOf wsX1_yearOf) := goodIn_app (goodIn_of _ (by decide +kernel)) ggX0_paymentsIn_X1_yearOf
set_option maxRecDepth 20000 in
theorem ggX0_paymentsIn_X0_paymentOn : GoodIn wsX0_paymentsIn wsX0_paymentOn := goodIn_r _ [18, 2, 19, 20, 17, 21, 22, 23, 24, 25, 26, 7, 27, 28, 29, 30, 31, 32, 33, 34, 35, 36, 37, 38, 3, 39, 40, 41, 42, 43, 44, 45, 46, 47, 48, 49, 50, 51, 52, 53, 54, 55, 56, 57, 58, 59, 60, 61, 62, 63, 64, 65, 66] (by decide +kernel) (by decide +kernel)
set_option maxRecDepth 20000 in
theorem gX0_paymentsIn_X0_paymentOn : GoodIn wsX0_paymentsIn (wsV RX0 101 RX0 yX0_paymentOn wsX0_paymentOn) := goodIn_app (goodIn_of _ (by decide +kernel)) ggX0_paymentsIn_X0_paymentOn
set_option maxRecDepth 20000 in
theorem ggX0_paymentsIn_X0_sunkOn : GoodIn wsX0_paymentsIn wsX0_sunkOn := goodIn_r _ [42, 2, 3, 43, 44, 45, 46, 47, 48, 49, 50, 51, 52, 53, 54, 55, 56, 57, 58, 59, 60, 61, 62, 63, 64, 65, 66] (by decide +kernel) (by decide +kernel)
set_option maxRecDepth 20000 in
theorem gX0_paymentsIn_X0_sunkOn : GoodIn wsX0_paymentsIn (wsV RX0 88 RX0 yX0_sunkOn wsX0_sunkOn) := goodIn_app (goodIn_of _ (by decide +kernel)) ggX0_paymentsIn_X0_sunkOn
theorem dX0_paymentsIn_0 : decode cX0_paymentsIn 0 = .ok (.lconst 0, 1) := by decide +kernel
theorem dX0_paymentsIn_1 : decode cX0_paymentsIn 1 = .ok (.lstore_n 3, 1) := by decide +kernel
theorem dX0_paymentsIn_2 : decode cX0_paymentsIn 2 = .ok (.aload_n 0, 1) := by decide +kernel
theorem dX0_paymentsIn_3 : decode cX0_paymentsIn 3 = .ok (.getfield 15, 3) := by decide +kernel
theorem dX0_paymentsIn_6 : decode cX0_paymentsIn 6 = .ok (.istore 5, 2) := by decide +kernel
theorem dX0_paymentsIn_8 : decode cX0_paymentsIn 8 = .ok (.aload_n 0, 1) := by decide +kernel
theorem dX0_paymentsIn_9 : decode cX0_paymentsIn 9 = .ok (.getfield 9, 3) := by decide +kernel
theorem dX0_paymentsIn_12 : decode cX0_paymentsIn 12 = .ok (.iload_n 2, 1) := by decide +kernel
theorem dX0_paymentsIn_13 : decode cX0_paymentsIn 13 = .ok (.invokevirtual 19, 3) := by decide +kernel
theorem dX0_paymentsIn_16 : decode cX0_paymentsIn 16 = .ok (.istore 6, 2) := by decide +kernel
theorem dX0_paymentsIn_18 : decode cX0_paymentsIn 18 = .ok (.iload 6, 2) := by decide +kernel
theorem dX0_paymentsIn_20 : decode cX0_paymentsIn 20 = .ok (.aload_n 0, 1) := by decide +kernel
theorem dX0_paymentsIn_21 : decode cX0_paymentsIn 21 = .ok (.getfield 9, 3) := by decide +kernel
theorem dX0_paymentsIn_24 : decode cX0_paymentsIn 24 = .ok (.getfield 66, 3) := by decide +kernel
theorem dX0_paymentsIn_27 : decode cX0_paymentsIn 27 = .ok (.arraylength, 1) := by decide +kernel
theorem dX0_paymentsIn_28 : decode cX0_paymentsIn 28 = .ok (.if_icmp .ge 50, 3) := by decide +kernel
theorem dX0_paymentsIn_31 : decode cX0_paymentsIn 31 = .ok (.aload_n 0, 1) := by decide +kernel
theorem dX0_paymentsIn_32 : decode cX0_paymentsIn 32 = .ok (.getfield 9, 3) := by decide +kernel
theorem dX0_paymentsIn_35 : decode cX0_paymentsIn 35 = .ok (.getfield 66, 3) := by decide +kernel
theorem dX0_paymentsIn_38 : decode cX0_paymentsIn 38 = .ok (.iload 6, 2) := by decide +kernel
theorem dX0_paymentsIn_40 : decode cX0_paymentsIn 40 = .ok (.iaload, 1) := by decide +kernel
theorem dX0_paymentsIn_41 : decode cX0_paymentsIn 41 = .ok (.invokestatic 45, 3) := by decide +kernel
theorem dX0_paymentsIn_44 : decode cX0_paymentsIn 44 = .ok (.iload_n 1, 1) := by decide +kernel
theorem dX0_paymentsIn_45 : decode cX0_paymentsIn 45 = .ok (.if_icmp .ne 14, 3) := by decide +kernel
theorem dX0_paymentsIn_48 : decode cX0_paymentsIn 48 = .ok (.lload_n 3, 1) := by decide +kernel
theorem dX0_paymentsIn_49 : decode cX0_paymentsIn 49 = .ok (.aload_n 0, 1) := by decide +kernel
theorem dX0_paymentsIn_50 : decode cX0_paymentsIn 50 = .ok (.iload 6, 2) := by decide +kernel
theorem dX0_paymentsIn_52 : decode cX0_paymentsIn 52 = .ok (.iload 5, 2) := by decide +kernel
theorem dX0_paymentsIn_54 : decode cX0_paymentsIn 54 = .ok (.invokevirtual 101, 3) := by decide +kernel
theorem dX0_paymentsIn_57 : decode cX0_paymentsIn 57 = .ok (.ladd, 1) := by decide +kernel
theorem dX0_paymentsIn_58 : decode cX0_paymentsIn 58 = .ok (.lstore_n 3, 1) := by decide +kernel
theorem dX0_paymentsIn_59 : decode cX0_paymentsIn 59 = .ok (.iload 5, 2) := by decide +kernel
theorem dX0_paymentsIn_61 : decode cX0_paymentsIn 61 = .ok (.aload_n 0, 1) := by decide +kernel
theorem dX0_paymentsIn_62 : decode cX0_paymentsIn 62 = .ok (.iload 6, 2) := by decide +kernel
theorem dX0_paymentsIn_64 : decode cX0_paymentsIn 64 = .ok (.iload 5, 2) := by decide +kernel
theorem dX0_paymentsIn_66 : decode cX0_paymentsIn 66 = .ok (.invokevirtual 88, 3) := by decide +kernel
theorem dX0_paymentsIn_69 : decode cX0_paymentsIn 69 = .ok (.isub, 1) := by decide +kernel
theorem dX0_paymentsIn_70 : decode cX0_paymentsIn 70 = .ok (.istore 5, 2) := by decide +kernel
theorem dX0_paymentsIn_72 : decode cX0_paymentsIn 72 = .ok (.iinc 6 1, 3) := by decide +kernel
theorem dX0_paymentsIn_75 : decode cX0_paymentsIn 75 = .ok (.goto (-57), 3) := by decide +kernel
theorem dX0_paymentsIn_78 : decode cX0_paymentsIn 78 = .ok (.lload_n 3, 1) := by decide +kernel
theorem dX0_paymentsIn_79 : decode cX0_paymentsIn 79 = .ok (.lreturn, 1) := by decide +kernel
set_option maxRecDepth 20000 in
theorem ggX0_tell_X0_face : GoodIn wsX0_tell wsX0_face := goodIn_r _ [16, 7, 17, 18, 15, 19, 20, 21, 26, 27, 28, 29, 30, 31, 32, 33, 34] (by decide +kernel) (by decide +kernel)
set_option maxRecDepth 20000 in
theorem gX0_tell_X0_face : GoodIn wsX0_tell (wsV RX0 58 RX0 yX0_face wsX0_face) := goodIn_app (goodIn_of _ (by decide +kernel)) ggX0_tell_X0_face
set_option maxRecDepth 20000 in
theorem ggX0_tell_X0_isGone : GoodIn wsX0_tell wsX0_isGone := goodIn_r _ [25, 10, 26, 27, 28, 29, 30, 31, 32, 33, 34] (by decide +kernel) (by decide +kernel)
set_option maxRecDepth 20000 in
theorem gX0_tell_X0_isGone : GoodIn wsX0_tell (wsV RX0 34 RX0 yX0_isGone wsX0_isGone) := goodIn_app (goodIn_of _ (by decide +kernel)) ggX0_tell_X0_isGone
theorem dX0_tell_0 : decode cX0_tell 0 = .ok (.iload_n 1, 1) := by decide +kernel
theorem dX0_tell_1 : decode cX0_tell 1 = .ok (.tableswitch 136 0 9 #[55, 63, 71, 79, 87, 95, 100, 106, 115, 131], 55) := by decide +kernel
theorem dX0_tell_56 : decode cX0_tell 56 = .ok (.aload_n 0, 1) := by decide +kernel
theorem dX0_tell_57 : decode cX0_tell 57 = .ok (.getfield 9, 3) := by decide +kernel
theorem dX0_tell_60 : decode cX0_tell 60 = .ok (.getfield 31, 3) := by decide +kernel
theorem dX0_tell_63 : decode cX0_tell 63 = .ok (.ireturn, 1) := by decide +kernel
theorem dX0_tell_64 : decode cX0_tell 64 = .ok (.aload_n 0, 1) := by decide +kernel
theorem dX0_tell_65 : decode cX0_tell 65 = .ok (.getfield 9, 3) := by decide +kernel
theorem dX0_tell_68 : decode cX0_tell 68 = .ok (.getfield 42, 3) := by decide +kernel
theorem dX0_tell_71 : decode cX0_tell 71 = .ok (.ireturn, 1) := by decide +kernel
theorem dX0_tell_72 : decode cX0_tell 72 = .ok (.aload_n 0, 1) := by decide +kernel
theorem dX0_tell_73 : decode cX0_tell 73 = .ok (.getfield 9, 3) := by decide +kernel
theorem dX0_tell_76 : decode cX0_tell 76 = .ok (.getfield 163, 3) := by decide +kernel
theorem dX0_tell_79 : decode cX0_tell 79 = .ok (.ireturn, 1) := by decide +kernel
theorem dX0_tell_80 : decode cX0_tell 80 = .ok (.aload_n 0, 1) := by decide +kernel
theorem dX0_tell_81 : decode cX0_tell 81 = .ok (.getfield 9, 3) := by decide +kernel
theorem dX0_tell_84 : decode cX0_tell 84 = .ok (.getfield 91, 3) := by decide +kernel
theorem dX0_tell_87 : decode cX0_tell 87 = .ok (.ireturn, 1) := by decide +kernel
theorem dX0_tell_88 : decode cX0_tell 88 = .ok (.aload_n 0, 1) := by decide +kernel
theorem dX0_tell_89 : decode cX0_tell 89 = .ok (.getfield 9, 3) := by decide +kernel
theorem dX0_tell_92 : decode cX0_tell 92 = .ok (.getfield 166, 3) := by decide +kernel
theorem dX0_tell_95 : decode cX0_tell 95 = .ok (.ireturn, 1) := by decide +kernel
theorem dX0_tell_96 : decode cX0_tell 96 = .ok (.aload_n 0, 1) := by decide +kernel
theorem dX0_tell_97 : decode cX0_tell 97 = .ok (.getfield 15, 3) := by decide +kernel
theorem dX0_tell_100 : decode cX0_tell 100 = .ok (.ireturn, 1) := by decide +kernel
theorem dX0_tell_101 : decode cX0_tell 101 = .ok (.aload_n 0, 1) := by decide +kernel
theorem dX0_tell_102 : decode cX0_tell 102 = .ok (.invokevirtual 58, 3) := by decide +kernel
theorem dX0_tell_105 : decode cX0_tell 105 = .ok (.l2i, 1) := by decide +kernel
theorem dX0_tell_106 : decode cX0_tell 106 = .ok (.ireturn, 1) := by decide +kernel
theorem dX0_tell_107 : decode cX0_tell 107 = .ok (.aload_n 0, 1) := by decide +kernel
theorem dX0_tell_108 : decode cX0_tell 108 = .ok (.getfield 9, 3) := by decide +kernel
theorem dX0_tell_111 : decode cX0_tell 111 = .ok (.getfield 66, 3) := by decide +kernel
theorem dX0_tell_114 : decode cX0_tell 114 = .ok (.arraylength, 1) := by decide +kernel
theorem dX0_tell_115 : decode cX0_tell 115 = .ok (.ireturn, 1) := by decide +kernel
theorem dX0_tell_116 : decode cX0_tell 116 = .ok (.aload_n 0, 1) := by decide +kernel
theorem dX0_tell_117 : decode cX0_tell 117 = .ok (.invokevirtual 34, 3) := by decide +kernel
theorem dX0_tell_120 : decode cX0_tell 120 = .ok (.ifCond .eq 7, 3) := by decide +kernel
theorem dX0_tell_123 : decode cX0_tell 123 = .ok (.iconst (-1), 1) := by decide +kernel
theorem dX0_tell_124 : decode cX0_tell 124 = .ok (.goto 7, 3) := by decide +kernel
theorem dX0_tell_127 : decode cX0_tell 127 = .ok (.aload_n 0, 1) := by decide +kernel
theorem dX0_tell_128 : decode cX0_tell 128 = .ok (.getfield 25, 3) := by decide +kernel
theorem dX0_tell_131 : decode cX0_tell 131 = .ok (.ireturn, 1) := by decide +kernel
theorem dX0_tell_132 : decode cX0_tell 132 = .ok (.aload_n 0, 1) := by decide +kernel
theorem dX0_tell_133 : decode cX0_tell 133 = .ok (.getfield 28, 3) := by decide +kernel
theorem dX0_tell_136 : decode cX0_tell 136 = .ok (.ireturn, 1) := by decide +kernel
theorem dX0_tell_137 : decode cX0_tell 137 = .ok (.aload_n 0, 1) := by decide +kernel
theorem dX0_tell_138 : decode cX0_tell 138 = .ok (.getfield 147, 3) := by decide +kernel
theorem dX0_tell_141 : decode cX0_tell 141 = .ok (.ireturn, 1) := by decide +kernel
set_option maxRecDepth 20000 in
theorem ggX0_addTo_X0_tell : GoodIn wsX0_addTo wsX0_tell := goodIn_r _ [9, 2, 10, 11, 12, 13, 14, 15, 3, 16, 17, 18, 19, 20, 21, 8, 22, 23, 24, 25, 4, 26, 27, 28, 29, 30, 95, 96, 97, 98, 99, 100, 101, 102, 103, 104, 105, 106, 107, 108, 109, 110, 111, 112] (by decide +kernel) (by decide +kernel)
set_option maxRecDepth 20000 in
theorem gX0_addTo_X0_tell : GoodIn wsX0_addTo (wsV RX0 171 RX0 yX0_tell wsX0_tell) := goodIn_app (goodIn_of _ (by decide +kernel)) ggX0_addTo_X0_tell
set_option maxRecDepth 20000 in
theorem ggX0_addTo_X0_accruedOn : GoodIn wsX0_addTo wsX0_accruedOn := goodIn_r _ [34, 2, 27, 28, 29, 8, 30, 17, 19, 20, 21, 22, 15, 23, 24, 25, 4, 26, 35, 36, 37, 38, 39, 40, 41, 42, 43, 44, 45, 46, 47, 48, 49, 50, 51, 52, 53, 54, 55, 56, 57, 58, 59, 60, 61, 62, 63, 64, 65, 66, 67, 68, 69, 70, 71, 72, 73, 74, 75, 76, 77, 78, 79, 80, 81, 82, 83, 84, 85, 86, 87, 88, 95, 96, 97, 98, 99, 100, 101, 102, 103, 104, 105, 106, 107, 108, 109, 110, 111, 112] (by decide +kernel) (by decide +kernel)
set_option maxRecDepth 20000 in
theorem gX0_addTo_X0_accruedOn : GoodIn wsX0_addTo (wsV RX0 174 RX0 yX0_accruedOn wsX0_accruedOn) := goodIn_app (goodIn_of _ (by decide +kernel)) ggX0_addTo_X0_accruedOn
set_option maxRecDepth 20000 in
theorem ggX0_addTo_X3_couponFor : GoodIn wsX0_addTo wsX3_couponFor := goodIn_r _ [92, 54, 40, 93, 42, 94, 55, 56, 104, 105, 106, 107, 108, 109, 110, 111, 112] (by decide +kernel) (by decide +kernel)
set_option maxRecDepth 20000 in
theorem gX0_addTo_X3_couponFor : GoodIn wsX0_addTo (wsV RX0 82 RX3 yX3_couponFor wsX3_couponFor) := goodIn_app (goodIn_of _ (by decide +kernel)) ggX0_addTo_X3_couponFor
theorem dX0_addTo_0 : decode cX0_addTo 0 = .ok (.lload_n 1, 1) := by decide +kernel
theorem dX0_addTo_1 : decode cX0_addTo 1 = .ok (.lstore 4, 2) := by decide +kernel
theorem dX0_addTo_3 : decode cX0_addTo 3 = .ok (.iconst 0, 1) := by decide +kernel
theorem dX0_addTo_4 : decode cX0_addTo 4 = .ok (.istore 6, 2) := by decide +kernel
theorem dX0_addTo_6 : decode cX0_addTo 6 = .ok (.iload 6, 2) := by decide +kernel
theorem dX0_addTo_8 : decode cX0_addTo 8 = .ok (.bipush 10, 2) := by decide +kernel
theorem dX0_addTo_10 : decode cX0_addTo 10 = .ok (.if_icmp .gt 25, 3) := by decide +kernel
theorem dX0_addTo_13 : decode cX0_addTo 13 = .ok (.lload 4, 2) := by decide +kernel
theorem dX0_addTo_15 : decode cX0_addTo 15 = .ok (.ldc2_w 169, 3) := by decide +kernel
theorem dX0_addTo_18 : decode cX0_addTo 18 = .ok (.lmul, 1) := by decide +kernel
theorem dX0_addTo_19 : decode cX0_addTo 19 = .ok (.aload_n 0, 1) := by decide +kernel
theorem dX0_addTo_20 : decode cX0_addTo 20 = .ok (.iload 6, 2) := by decide +kernel
theorem dX0_addTo_22 : decode cX0_addTo 22 = .ok (.invokevirtual 171, 3) := by decide +kernel
theorem dX0_addTo_25 : decode cX0_addTo 25 = .ok (.i2l, 1) := by decide +kernel
theorem dX0_addTo_26 : decode cX0_addTo 26 = .ok (.ladd, 1) := by decide +kernel
theorem dX0_addTo_27 : decode cX0_addTo 27 = .ok (.lstore 4, 2) := by decide +kernel
theorem dX0_addTo_29 : decode cX0_addTo 29 = .ok (.iinc 6 1, 3) := by decide +kernel
theorem dX0_addTo_32 : decode cX0_addTo 32 = .ok (.goto (-26), 3) := by decide +kernel
theorem dX0_addTo_35 : decode cX0_addTo 35 = .ok (.lload 4, 2) := by decide +kernel
theorem dX0_addTo_37 : decode cX0_addTo 37 = .ok (.ldc2_w 169, 3) := by decide +kernel
theorem dX0_addTo_40 : decode cX0_addTo 40 = .ok (.lmul, 1) := by decide +kernel
theorem dX0_addTo_41 : decode cX0_addTo 41 = .ok (.aload_n 0, 1) := by decide +kernel
theorem dX0_addTo_42 : decode cX0_addTo 42 = .ok (.iload_n 3, 1) := by decide +kernel
theorem dX0_addTo_43 : decode cX0_addTo 43 = .ok (.invokevirtual 174, 3) := by decide +kernel
theorem dX0_addTo_46 : decode cX0_addTo 46 = .ok (.ladd, 1) := by decide +kernel
theorem dX0_addTo_47 : decode cX0_addTo 47 = .ok (.lstore 4, 2) := by decide +kernel
theorem dX0_addTo_49 : decode cX0_addTo 49 = .ok (.iconst 0, 1) := by decide +kernel
theorem dX0_addTo_50 : decode cX0_addTo 50 = .ok (.istore 6, 2) := by decide +kernel
theorem dX0_addTo_52 : decode cX0_addTo 52 = .ok (.iload 6, 2) := by decide +kernel
theorem dX0_addTo_54 : decode cX0_addTo 54 = .ok (.aload_n 0, 1) := by decide +kernel
theorem dX0_addTo_55 : decode cX0_addTo 55 = .ok (.getfield 9, 3) := by decide +kernel
theorem dX0_addTo_58 : decode cX0_addTo 58 = .ok (.getfield 66, 3) := by decide +kernel
theorem dX0_addTo_61 : decode cX0_addTo 61 = .ok (.arraylength, 1) := by decide +kernel
theorem dX0_addTo_62 : decode cX0_addTo 62 = .ok (.if_icmp .ge 50, 3) := by decide +kernel
theorem dX0_addTo_65 : decode cX0_addTo 65 = .ok (.lload 4, 2) := by decide +kernel
theorem dX0_addTo_67 : decode cX0_addTo 67 = .ok (.ldc2_w 169, 3) := by decide +kernel
theorem dX0_addTo_70 : decode cX0_addTo 70 = .ok (.lmul, 1) := by decide +kernel
theorem dX0_addTo_71 : decode cX0_addTo 71 = .ok (.aload_n 0, 1) := by decide +kernel
theorem dX0_addTo_72 : decode cX0_addTo 72 = .ok (.getfield 9, 3) := by decide +kernel
theorem dX0_addTo_75 : decode cX0_addTo 75 = .ok (.getfield 66, 3) := by decide +kernel
theorem dX0_addTo_78 : decode cX0_addTo 78 = .ok (.iload 6, 2) := by decide +kernel
theorem dX0_addTo_80 : decode cX0_addTo 80 = .ok (.iaload, 1) := by decide +kernel
theorem dX0_addTo_81 : decode cX0_addTo 81 = .ok (.i2l, 1) := by decide +kernel
theorem dX0_addTo_82 : decode cX0_addTo 82 = .ok (.ladd, 1) := by decide +kernel
theorem dX0_addTo_83 : decode cX0_addTo 83 = .ok (.lstore 4, 2) := by decide +kernel
theorem dX0_addTo_85 : decode cX0_addTo 85 = .ok (.lload 4, 2) := by decide +kernel
theorem dX0_addTo_87 : decode cX0_addTo 87 = .ok (.ldc2_w 169, 3) := by decide +kernel
theorem dX0_addTo_90 : decode cX0_addTo 90 = .ok (.lmul, 1) := by decide +kernel
theorem dX0_addTo_91 : decode cX0_addTo 91 = .ok (.aload_n 0, 1) := by decide +kernel
theorem dX0_addTo_92 : decode cX0_addTo 92 = .ok (.getfield 9, 3) := by decide +kernel
theorem dX0_addTo_95 : decode cX0_addTo 95 = .ok (.iload 6, 2) := by decide +kernel
theorem dX0_addTo_97 : decode cX0_addTo 97 = .ok (.ldc2_w 50, 3) := by decide +kernel
theorem dX0_addTo_100 : decode cX0_addTo 100 = .ok (.invokevirtual 82, 3) := by decide +kernel
theorem dX0_addTo_103 : decode cX0_addTo 103 = .ok (.ladd, 1) := by decide +kernel
theorem dX0_addTo_104 : decode cX0_addTo 104 = .ok (.lstore 4, 2) := by decide +kernel
theorem dX0_addTo_106 : decode cX0_addTo 106 = .ok (.iinc 6 1, 3) := by decide +kernel
theorem dX0_addTo_109 : decode cX0_addTo 109 = .ok (.goto (-57), 3) := by decide +kernel
theorem dX0_addTo_112 : decode cX0_addTo 112 = .ok (.lload 4, 2) := by decide +kernel
theorem dX0_addTo_114 : decode cX0_addTo 114 = .ok (.lreturn, 1) := by decide +kernel
theorem dX1_yearOf_0 : decode cX1_yearOf 0 = .ok (.iload_n 0, 1) := by decide +kernel
theorem dX1_yearOf_1 : decode cX1_yearOf 1 = .ok (.sipush 10000, 3) := by decide +kernel
theorem dX1_yearOf_4 : decode cX1_yearOf 4 = .ok (.idiv, 1) := by decide +kernel
theorem dX1_yearOf_5 : decode cX1_yearOf 5 = .ok (.ireturn, 1) := by decide +kernel
theorem dX1_monthOf_0 : decode cX1_monthOf 0 = .ok (.iload_n 0, 1) := by decide +kernel
theorem dX1_monthOf_1 : decode cX1_monthOf 1 = .ok (.bipush 100, 2) := by decide +kernel
theorem dX1_monthOf_3 : decode cX1_monthOf 3 = .ok (.idiv, 1) := by decide +kernel
theorem dX1_monthOf_4 : decode cX1_monthOf 4 = .ok (.bipush 100, 2) := by decide +kernel
theorem dX1_monthOf_6 : decode cX1_monthOf 6 = .ok (.irem, 1) := by decide +kernel
theorem dX1_monthOf_7 : decode cX1_monthOf 7 = .ok (.ireturn, 1) := by decide +kernel
theorem dX1_dayOf_0 : decode cX1_dayOf 0 = .ok (.iload_n 0, 1) := by decide +kernel
theorem dX1_dayOf_1 : decode cX1_dayOf 1 = .ok (.bipush 100, 2) := by decide +kernel
theorem dX1_dayOf_3 : decode cX1_dayOf 3 = .ok (.irem, 1) := by decide +kernel
theorem dX1_dayOf_4 : decode cX1_dayOf 4 = .ok (.ireturn, 1) := by decide +kernel
set_option maxRecDepth 20000 in
theorem ggX1_isDate_X1_monthOf : GoodIn wsX1_isDate wsX1_monthOf := goodIn_r _ [6] (by decide +kernel) (by decide +kernel)
set_option maxRecDepth 20000 in
theorem gX1_isDate_X1_monthOf : GoodIn wsX1_isDate (va_wsS RX1 13 yX1_monthOf wsX1_monthOf) := goodIn_app (goodIn_of _ (by decide +kernel)) ggX1_isDate_X1_monthOf
set_option maxRecDepth 20000 in
theorem ggX1_isDate_X1_dayOf : GoodIn wsX1_isDate wsX1_dayOf := goodIn_r _ [9] (by decide +kernel) (by decide +kernel)
set_option maxRecDepth 20000 in
theorem gX1_isDate_X1_dayOf : GoodIn wsX1_isDate (va_wsS RX1 17 yX1_dayOf wsX1_dayOf) := goodIn_app (goodIn_of _ (by decide +kernel)) ggX1_isDate_X1_dayOf
set_option maxRecDepth 20000 in
theorem ggX1_isDate_X1_yearOf : GoodIn wsX1_isDate wsX1_yearOf := goodIn_r _ [12] (by decide +kernel) (by decide +kernel)
set_option maxRecDepth 20000 in
theorem gX1_isDate_X1_yearOf : GoodIn wsX1_isDate (va_wsS RX1 20 yX1_yearOf wsX1_yearOf) := goodIn_app (goodIn_of _ (by decide +kernel)) ggX1_isDate_X1_yearOf
set_option maxRecDepth 20000 in
theorem ggX1_isDate_X1_monthLength : GoodIn wsX1_isDate wsX1_monthLength := goodIn_r _ [15] (by decide +kernel) (by decide +kernel)
set_option maxRecDepth 20000 in
theorem gX1_isDate_X1_monthLength : GoodIn wsX1_isDate (va_wsS RX1 23 yX1_monthLength wsX1_monthLength) := goodIn_app (goodIn_of _ (by decide +kernel)) ggX1_isDate_X1_monthLength
theorem dX1_isDate_0 : decode cX1_isDate 0 = .ok (.iload_n 0, 1) := by decide +kernel
theorem dX1_isDate_1 : decode cX1_isDate 1 = .ok (.ldc 11, 2) := by decide +kernel
theorem dX1_isDate_3 : decode cX1_isDate 3 = .ok (.if_icmp .lt 9, 3) := by decide +kernel
theorem dX1_isDate_6 : decode cX1_isDate 6 = .ok (.iload_n 0, 1) := by decide +kernel
theorem dX1_isDate_7 : decode cX1_isDate 7 = .ok (.ldc 12, 2) := by decide +kernel
theorem dX1_isDate_9 : decode cX1_isDate 9 = .ok (.if_icmp .le 5, 3) := by decide +kernel
theorem dX1_isDate_12 : decode cX1_isDate 12 = .ok (.iconst 0, 1) := by decide +kernel
theorem dX1_isDate_13 : decode cX1_isDate 13 = .ok (.ireturn, 1) := by decide +kernel
theorem dX1_isDate_14 : decode cX1_isDate 14 = .ok (.iload_n 0, 1) := by decide +kernel
theorem dX1_isDate_15 : decode cX1_isDate 15 = .ok (.invokestatic 13, 3) := by decide +kernel
theorem dX1_isDate_18 : decode cX1_isDate 18 = .ok (.istore_n 1, 1) := by decide +kernel
theorem dX1_isDate_19 : decode cX1_isDate 19 = .ok (.iload_n 0, 1) := by decide +kernel
theorem dX1_isDate_20 : decode cX1_isDate 20 = .ok (.invokestatic 17, 3) := by decide +kernel
theorem dX1_isDate_23 : decode cX1_isDate 23 = .ok (.istore_n 2, 1) := by decide +kernel
theorem dX1_isDate_24 : decode cX1_isDate 24 = .ok (.iload_n 1, 1) := by decide +kernel
theorem dX1_isDate_25 : decode cX1_isDate 25 = .ok (.iconst 1, 1) := by decide +kernel
theorem dX1_isDate_26 : decode cX1_isDate 26 = .ok (.if_icmp .lt 30, 3) := by decide +kernel
theorem dX1_isDate_29 : decode cX1_isDate 29 = .ok (.iload_n 1, 1) := by decide +kernel
theorem dX1_isDate_30 : decode cX1_isDate 30 = .ok (.bipush 12, 2) := by decide +kernel
theorem dX1_isDate_32 : decode cX1_isDate 32 = .ok (.if_icmp .gt 24, 3) := by decide +kernel
theorem dX1_isDate_35 : decode cX1_isDate 35 = .ok (.iload_n 2, 1) := by decide +kernel
theorem dX1_isDate_36 : decode cX1_isDate 36 = .ok (.iconst 1, 1) := by decide +kernel
theorem dX1_isDate_37 : decode cX1_isDate 37 = .ok (.if_icmp .lt 19, 3) := by decide +kernel
theorem dX1_isDate_40 : decode cX1_isDate 40 = .ok (.iload_n 2, 1) := by decide +kernel
theorem dX1_isDate_41 : decode cX1_isDate 41 = .ok (.iload_n 0, 1) := by decide +kernel
theorem dX1_isDate_42 : decode cX1_isDate 42 = .ok (.invokestatic 20, 3) := by decide +kernel
theorem dX1_isDate_45 : decode cX1_isDate 45 = .ok (.iload_n 1, 1) := by decide +kernel
theorem dX1_isDate_46 : decode cX1_isDate 46 = .ok (.invokestatic 23, 3) := by decide +kernel
theorem dX1_isDate_49 : decode cX1_isDate 49 = .ok (.if_icmp .gt 7, 3) := by decide +kernel
theorem dX1_isDate_52 : decode cX1_isDate 52 = .ok (.iconst 1, 1) := by decide +kernel
theorem dX1_isDate_53 : decode cX1_isDate 53 = .ok (.goto 4, 3) := by decide +kernel
theorem dX1_isDate_56 : decode cX1_isDate 56 = .ok (.iconst 0, 1) := by decide +kernel
theorem dX1_isDate_57 : decode cX1_isDate 57 = .ok (.ireturn, 1) := by decide +kernel
theorem dX1_monthLength_0 : decode cX1_monthLength 0 = .ok (.iload_n 1, 1) := by decide +kernel
theorem dX1_monthLength_1 : decode cX1_monthLength 1 = .ok (.iconst 2, 1) := by decide +kernel
theorem dX1_monthLength_2 : decode cX1_monthLength 2 = .ok (.if_icmp .ne 17, 3) := by decide +kernel
theorem dX1_monthLength_5 : decode cX1_monthLength 5 = .ok (.iload_n 0, 1) := by decide +kernel
theorem dX1_monthLength_6 : decode cX1_monthLength 6 = .ok (.iconst 4, 1) := by decide +kernel
theorem dX1_monthLength_7 : decode cX1_monthLength 7 = .ok (.irem, 1) := by decide +kernel
theorem dX1_monthLength_8 : decode cX1_monthLength 8 = .ok (.ifCond .ne 8, 3) := by decide +kernel
theorem dX1_monthLength_11 : decode cX1_monthLength 11 = .ok (.bipush 29, 2) := by decide +kernel
theorem dX1_monthLength_13 : decode cX1_monthLength 13 = .ok (.goto 5, 3) := by decide +kernel
theorem dX1_monthLength_16 : decode cX1_monthLength 16 = .ok (.bipush 28, 2) := by decide +kernel
theorem dX1_monthLength_18 : decode cX1_monthLength 18 = .ok (.ireturn, 1) := by decide +kernel
theorem dX1_monthLength_19 : decode cX1_monthLength 19 = .ok (.iload_n 1, 1) := by decide +kernel
theorem dX1_monthLength_20 : decode cX1_monthLength 20 = .ok (.iconst 4, 1) := by decide +kernel
theorem dX1_monthLength_21 : decode cX1_monthLength 21 = .ok (.if_icmp .eq 21, 3) := by decide +kernel
theorem dX1_monthLength_24 : decode cX1_monthLength 24 = .ok (.iload_n 1, 1) := by decide +kernel
theorem dX1_monthLength_25 : decode cX1_monthLength 25 = .ok (.bipush 6, 2) := by decide +kernel
theorem dX1_monthLength_27 : decode cX1_monthLength 27 = .ok (.if_icmp .eq 15, 3) := by decide +kernel
theorem dX1_monthLength_30 : decode cX1_monthLength 30 = .ok (.iload_n 1, 1) := by decide +kernel
theorem dX1_monthLength_31 : decode cX1_monthLength 31 = .ok (.bipush 9, 2) := by decide +kernel
theorem dX1_monthLength_33 : decode cX1_monthLength 33 = .ok (.if_icmp .eq 9, 3) := by decide +kernel
theorem dX1_monthLength_36 : decode cX1_monthLength 36 = .ok (.iload_n 1, 1) := by decide +kernel
theorem dX1_monthLength_37 : decode cX1_monthLength 37 = .ok (.bipush 11, 2) := by decide +kernel
theorem dX1_monthLength_39 : decode cX1_monthLength 39 = .ok (.if_icmp .ne 8, 3) := by decide +kernel
theorem dX1_monthLength_42 : decode cX1_monthLength 42 = .ok (.bipush 30, 2) := by decide +kernel
theorem dX1_monthLength_44 : decode cX1_monthLength 44 = .ok (.goto 5, 3) := by decide +kernel
theorem dX1_monthLength_47 : decode cX1_monthLength 47 = .ok (.bipush 31, 2) := by decide +kernel
theorem dX1_monthLength_49 : decode cX1_monthLength 49 = .ok (.ireturn, 1) := by decide +kernel
theorem dX1_dayNumber_0 : decode cX1_dayNumber 0 = .ok (.iload_n 0, 1) := by decide +kernel
theorem dX1_dayNumber_1 : decode cX1_dayNumber 1 = .ok (.sipush 10000, 3) := by decide +kernel
theorem dX1_dayNumber_4 : decode cX1_dayNumber 4 = .ok (.idiv, 1) := by decide +kernel
theorem dX1_dayNumber_5 : decode cX1_dayNumber 5 = .ok (.sipush 2016, 3) := by decide +kernel
theorem dX1_dayNumber_8 : decode cX1_dayNumber 8 = .ok (.isub, 1) := by decide +kernel
theorem dX1_dayNumber_9 : decode cX1_dayNumber 9 = .ok (.istore_n 1, 1) := by decide +kernel
theorem dX1_dayNumber_10 : decode cX1_dayNumber 10 = .ok (.iload_n 0, 1) := by decide +kernel
theorem dX1_dayNumber_11 : decode cX1_dayNumber 11 = .ok (.bipush 100, 2) := by decide +kernel
theorem dX1_dayNumber_13 : decode cX1_dayNumber 13 = .ok (.idiv, 1) := by decide +kernel
theorem dX1_dayNumber_14 : decode cX1_dayNumber 14 = .ok (.bipush 100, 2) := by decide +kernel
theorem dX1_dayNumber_16 : decode cX1_dayNumber 16 = .ok (.irem, 1) := by decide +kernel
theorem dX1_dayNumber_17 : decode cX1_dayNumber 17 = .ok (.istore_n 2, 1) := by decide +kernel
theorem dX1_dayNumber_18 : decode cX1_dayNumber 18 = .ok (.iload_n 2, 1) := by decide +kernel
theorem dX1_dayNumber_19 : decode cX1_dayNumber 19 = .ok (.iconst 1, 1) := by decide +kernel
theorem dX1_dayNumber_20 : decode cX1_dayNumber 20 = .ok (.if_icmp .lt 21, 3) := by decide +kernel
theorem dX1_dayNumber_23 : decode cX1_dayNumber 23 = .ok (.iload_n 2, 1) := by decide +kernel
theorem dX1_dayNumber_24 : decode cX1_dayNumber 24 = .ok (.getstatic 27, 3) := by decide +kernel
theorem dX1_dayNumber_27 : decode cX1_dayNumber 27 = .ok (.arraylength, 1) := by decide +kernel
theorem dX1_dayNumber_28 : decode cX1_dayNumber 28 = .ok (.if_icmp .gt 13, 3) := by decide +kernel
theorem dX1_dayNumber_31 : decode cX1_dayNumber 31 = .ok (.getstatic 27, 3) := by decide +kernel
theorem dX1_dayNumber_34 : decode cX1_dayNumber 34 = .ok (.iload_n 2, 1) := by decide +kernel
theorem dX1_dayNumber_35 : decode cX1_dayNumber 35 = .ok (.iconst 1, 1) := by decide +kernel
theorem dX1_dayNumber_36 : decode cX1_dayNumber 36 = .ok (.isub, 1) := by decide +kernel
theorem dX1_dayNumber_37 : decode cX1_dayNumber 37 = .ok (.iaload, 1) := by decide +kernel
theorem dX1_dayNumber_38 : decode cX1_dayNumber 38 = .ok (.goto 4, 3) := by decide +kernel
theorem dX1_dayNumber_41 : decode cX1_dayNumber 41 = .ok (.iconst 0, 1) := by decide +kernel
theorem dX1_dayNumber_42 : decode cX1_dayNumber 42 = .ok (.istore_n 3, 1) := by decide +kernel
theorem dX1_dayNumber_43 : decode cX1_dayNumber 43 = .ok (.iload_n 2, 1) := by decide +kernel
theorem dX1_dayNumber_44 : decode cX1_dayNumber 44 = .ok (.iconst 2, 1) := by decide +kernel
theorem dX1_dayNumber_45 : decode cX1_dayNumber 45 = .ok (.if_icmp .le 13, 3) := by decide +kernel
theorem dX1_dayNumber_48 : decode cX1_dayNumber 48 = .ok (.iload_n 1, 1) := by decide +kernel
theorem dX1_dayNumber_49 : decode cX1_dayNumber 49 = .ok (.iconst 4, 1) := by decide +kernel
theorem dX1_dayNumber_50 : decode cX1_dayNumber 50 = .ok (.irem, 1) := by decide +kernel
theorem dX1_dayNumber_51 : decode cX1_dayNumber 51 = .ok (.ifCond .ne 7, 3) := by decide +kernel
theorem dX1_dayNumber_54 : decode cX1_dayNumber 54 = .ok (.iconst 1, 1) := by decide +kernel
theorem dX1_dayNumber_55 : decode cX1_dayNumber 55 = .ok (.goto 4, 3) := by decide +kernel
theorem dX1_dayNumber_58 : decode cX1_dayNumber 58 = .ok (.iconst 0, 1) := by decide +kernel
theorem dX1_dayNumber_59 : decode cX1_dayNumber 59 = .ok (.istore 4, 2) := by decide +kernel
theorem dX1_dayNumber_61 : decode cX1_dayNumber 61 = .ok (.sipush 365, 3) := by decide +kernel
theorem dX1_dayNumber_64 : decode cX1_dayNumber 64 = .ok (.iload_n 1, 1) := by decide +kernel
theorem dX1_dayNumber_65 : decode cX1_dayNumber 65 = .ok (.imul, 1) := by decide +kernel
theorem dX1_dayNumber_66 : decode cX1_dayNumber 66 = .ok (.iload_n 1, 1) := by decide +kernel
theorem dX1_dayNumber_67 : decode cX1_dayNumber 67 = .ok (.iconst 3, 1) := by decide +kernel
theorem dX1_dayNumber_68 : decode cX1_dayNumber 68 = .ok (.iadd, 1) := by decide +kernel
theorem dX1_dayNumber_69 : decode cX1_dayNumber 69 = .ok (.iconst 4, 1) := by decide +kernel
theorem dX1_dayNumber_70 : decode cX1_dayNumber 70 = .ok (.idiv, 1) := by decide +kernel
theorem dX1_dayNumber_71 : decode cX1_dayNumber 71 = .ok (.iadd, 1) := by decide +kernel
theorem dX1_dayNumber_72 : decode cX1_dayNumber 72 = .ok (.iload_n 3, 1) := by decide +kernel
theorem dX1_dayNumber_73 : decode cX1_dayNumber 73 = .ok (.iadd, 1) := by decide +kernel
theorem dX1_dayNumber_74 : decode cX1_dayNumber 74 = .ok (.iload 4, 2) := by decide +kernel
theorem dX1_dayNumber_76 : decode cX1_dayNumber 76 = .ok (.iadd, 1) := by decide +kernel
theorem dX1_dayNumber_77 : decode cX1_dayNumber 77 = .ok (.iload_n 0, 1) := by decide +kernel
theorem dX1_dayNumber_78 : decode cX1_dayNumber 78 = .ok (.bipush 100, 2) := by decide +kernel
theorem dX1_dayNumber_80 : decode cX1_dayNumber 80 = .ok (.irem, 1) := by decide +kernel
theorem dX1_dayNumber_81 : decode cX1_dayNumber 81 = .ok (.iadd, 1) := by decide +kernel
theorem dX1_dayNumber_82 : decode cX1_dayNumber 82 = .ok (.iconst 1, 1) := by decide +kernel
theorem dX1_dayNumber_83 : decode cX1_dayNumber 83 = .ok (.isub, 1) := by decide +kernel
theorem dX1_dayNumber_84 : decode cX1_dayNumber 84 = .ok (.ireturn, 1) := by decide +kernel
set_option maxRecDepth 20000 in
theorem ggX1_dateOf_X1_monthLength : GoodIn wsX1_dateOf wsX1_monthLength := goodIn_r _ [4] (by decide +kernel) (by decide +kernel)
set_option maxRecDepth 20000 in
theorem gX1_dateOf_X1_monthLength : GoodIn wsX1_dateOf (va_wsS RX1 23 yX1_monthLength wsX1_monthLength) := goodIn_app (goodIn_of _ (by decide +kernel)) ggX1_dateOf_X1_monthLength
theorem dX1_dateOf_0 : decode cX1_dateOf 0 = .ok (.iconst 4, 1) := by decide +kernel
theorem dX1_dateOf_1 : decode cX1_dateOf 1 = .ok (.iload_n 0, 1) := by decide +kernel
theorem dX1_dateOf_2 : decode cX1_dateOf 2 = .ok (.imul, 1) := by decide +kernel
theorem dX1_dateOf_3 : decode cX1_dateOf 3 = .ok (.sipush 1461, 3) := by decide +kernel
theorem dX1_dateOf_6 : decode cX1_dateOf 6 = .ok (.idiv, 1) := by decide +kernel
theorem dX1_dateOf_7 : decode cX1_dateOf 7 = .ok (.istore_n 1, 1) := by decide +kernel
theorem dX1_dateOf_8 : decode cX1_dateOf 8 = .ok (.sipush 2016, 3) := by decide +kernel
theorem dX1_dateOf_11 : decode cX1_dateOf 11 = .ok (.iload_n 1, 1) := by decide +kernel
theorem dX1_dateOf_12 : decode cX1_dateOf 12 = .ok (.iadd, 1) := by decide +kernel
theorem dX1_dateOf_13 : decode cX1_dateOf 13 = .ok (.istore_n 2, 1) := by decide +kernel
theorem dX1_dateOf_14 : decode cX1_dateOf 14 = .ok (.iload_n 0, 1) := by decide +kernel
theorem dX1_dateOf_15 : decode cX1_dateOf 15 = .ok (.sipush 365, 3) := by decide +kernel
theorem dX1_dateOf_18 : decode cX1_dateOf 18 = .ok (.iload_n 1, 1) := by decide +kernel
theorem dX1_dateOf_19 : decode cX1_dateOf 19 = .ok (.imul, 1) := by decide +kernel
theorem dX1_dateOf_20 : decode cX1_dateOf 20 = .ok (.isub, 1) := by decide +kernel
theorem dX1_dateOf_21 : decode cX1_dateOf 21 = .ok (.iload_n 1, 1) := by decide +kernel
theorem dX1_dateOf_22 : decode cX1_dateOf 22 = .ok (.iconst 3, 1) := by decide +kernel
theorem dX1_dateOf_23 : decode cX1_dateOf 23 = .ok (.iadd, 1) := by decide +kernel
theorem dX1_dateOf_24 : decode cX1_dateOf 24 = .ok (.iconst 4, 1) := by decide +kernel
theorem dX1_dateOf_25 : decode cX1_dateOf 25 = .ok (.idiv, 1) := by decide +kernel
theorem dX1_dateOf_26 : decode cX1_dateOf 26 = .ok (.isub, 1) := by decide +kernel
theorem dX1_dateOf_27 : decode cX1_dateOf 27 = .ok (.istore_n 3, 1) := by decide +kernel
theorem dX1_dateOf_28 : decode cX1_dateOf 28 = .ok (.iconst 1, 1) := by decide +kernel
theorem dX1_dateOf_29 : decode cX1_dateOf 29 = .ok (.istore 4, 2) := by decide +kernel
theorem dX1_dateOf_31 : decode cX1_dateOf 31 = .ok (.iload 4, 2) := by decide +kernel
theorem dX1_dateOf_33 : decode cX1_dateOf 33 = .ok (.bipush 12, 2) := by decide +kernel
theorem dX1_dateOf_35 : decode cX1_dateOf 35 = .ok (.if_icmp .ge 28, 3) := by decide +kernel
theorem dX1_dateOf_38 : decode cX1_dateOf 38 = .ok (.iload_n 3, 1) := by decide +kernel
theorem dX1_dateOf_39 : decode cX1_dateOf 39 = .ok (.iload_n 2, 1) := by decide +kernel
theorem dX1_dateOf_40 : decode cX1_dateOf 40 = .ok (.iload 4, 2) := by decide +kernel
theorem dX1_dateOf_42 : decode cX1_dateOf 42 = .ok (.invokestatic 23, 3) := by decide +kernel
theorem dX1_dateOf_45 : decode cX1_dateOf 45 = .ok (.if_icmp .lt 18, 3) := by decide +kernel
theorem dX1_dateOf_48 : decode cX1_dateOf 48 = .ok (.iload_n 3, 1) := by decide +kernel
theorem dX1_dateOf_49 : decode cX1_dateOf 49 = .ok (.iload_n 2, 1) := by decide +kernel
theorem dX1_dateOf_50 : decode cX1_dateOf 50 = .ok (.iload 4, 2) := by decide +kernel
theorem dX1_dateOf_52 : decode cX1_dateOf 52 = .ok (.invokestatic 23, 3) := by decide +kernel
theorem dX1_dateOf_55 : decode cX1_dateOf 55 = .ok (.isub, 1) := by decide +kernel
theorem dX1_dateOf_56 : decode cX1_dateOf 56 = .ok (.istore_n 3, 1) := by decide +kernel
theorem dX1_dateOf_57 : decode cX1_dateOf 57 = .ok (.iinc 4 1, 3) := by decide +kernel
theorem dX1_dateOf_60 : decode cX1_dateOf 60 = .ok (.goto (-29), 3) := by decide +kernel
theorem dX1_dateOf_63 : decode cX1_dateOf 63 = .ok (.sipush 10000, 3) := by decide +kernel
theorem dX1_dateOf_66 : decode cX1_dateOf 66 = .ok (.iload_n 2, 1) := by decide +kernel
theorem dX1_dateOf_67 : decode cX1_dateOf 67 = .ok (.imul, 1) := by decide +kernel
theorem dX1_dateOf_68 : decode cX1_dateOf 68 = .ok (.bipush 100, 2) := by decide +kernel
theorem dX1_dateOf_70 : decode cX1_dateOf 70 = .ok (.iload 4, 2) := by decide +kernel
theorem dX1_dateOf_72 : decode cX1_dateOf 72 = .ok (.imul, 1) := by decide +kernel
theorem dX1_dateOf_73 : decode cX1_dateOf 73 = .ok (.iadd, 1) := by decide +kernel
theorem dX1_dateOf_74 : decode cX1_dateOf 74 = .ok (.iload_n 3, 1) := by decide +kernel
theorem dX1_dateOf_75 : decode cX1_dateOf 75 = .ok (.iadd, 1) := by decide +kernel
theorem dX1_dateOf_76 : decode cX1_dateOf 76 = .ok (.iconst 1, 1) := by decide +kernel
theorem dX1_dateOf_77 : decode cX1_dateOf 77 = .ok (.iadd, 1) := by decide +kernel
theorem dX1_dateOf_78 : decode cX1_dateOf 78 = .ok (.ireturn, 1) := by decide +kernel
theorem dX1_dayOfWeek_0 : decode cX1_dayOfWeek 0 = .ok (.iload_n 0, 1) := by decide +kernel
theorem dX1_dayOfWeek_1 : decode cX1_dayOfWeek 1 = .ok (.iconst 4, 1) := by decide +kernel
theorem dX1_dayOfWeek_2 : decode cX1_dayOfWeek 2 = .ok (.iadd, 1) := by decide +kernel
theorem dX1_dayOfWeek_3 : decode cX1_dayOfWeek 3 = .ok (.bipush 7, 2) := by decide +kernel
theorem dX1_dayOfWeek_5 : decode cX1_dayOfWeek 5 = .ok (.irem, 1) := by decide +kernel
theorem dX1_dayOfWeek_6 : decode cX1_dayOfWeek 6 = .ok (.ireturn, 1) := by decide +kernel
set_option maxRecDepth 20000 in
theorem ggX1_daysBetween_X1_dayNumber : GoodIn wsX1_daysBetween wsX1_dayNumber := goodIn_r _ [4, 5] (by decide +kernel) (by decide +kernel)
set_option maxRecDepth 20000 in
theorem gX1_daysBetween_X1_dayNumber : GoodIn wsX1_daysBetween (va_wsS RX1 31 yX1_dayNumber wsX1_dayNumber) := goodIn_app (goodIn_of _ (by decide +kernel)) ggX1_daysBetween_X1_dayNumber
theorem dX1_daysBetween_0 : decode cX1_daysBetween 0 = .ok (.iload_n 1, 1) := by decide +kernel
theorem dX1_daysBetween_1 : decode cX1_daysBetween 1 = .ok (.invokestatic 31, 3) := by decide +kernel
theorem dX1_daysBetween_4 : decode cX1_daysBetween 4 = .ok (.iload_n 0, 1) := by decide +kernel
theorem dX1_daysBetween_5 : decode cX1_daysBetween 5 = .ok (.invokestatic 31, 3) := by decide +kernel
theorem dX1_daysBetween_8 : decode cX1_daysBetween 8 = .ok (.isub, 1) := by decide +kernel
theorem dX1_daysBetween_9 : decode cX1_daysBetween 9 = .ok (.ireturn, 1) := by decide +kernel
set_option maxRecDepth 20000 in
theorem ggX1_daysOf30_X1_dayOf : GoodIn wsX1_daysOf30 wsX1_dayOf := goodIn_r _ [8] (by decide +kernel) (by decide +kernel)
set_option maxRecDepth 20000 in
theorem gX1_daysOf30_X1_dayOf : GoodIn wsX1_daysOf30 (va_wsS RX1 17 yX1_dayOf wsX1_dayOf) := goodIn_app (goodIn_of _ (by decide +kernel)) ggX1_daysOf30_X1_dayOf
set_option maxRecDepth 20000 in
theorem ggX1_daysOf30_X1_yearOf : GoodIn wsX1_daysOf30 wsX1_yearOf := goodIn_r _ [11] (by decide +kernel) (by decide +kernel)
set_option maxRecDepth 20000 in
theorem gX1_daysOf30_X1_yearOf : GoodIn wsX1_daysOf30 (va_wsS RX1 20 yX1_yearOf wsX1_yearOf) := goodIn_app (goodIn_of _ (by decide +kernel)) ggX1_daysOf30_X1_yearOf
set_option maxRecDepth 20000 in
theorem ggX1_daysOf30_X1_monthOf : GoodIn wsX1_daysOf30 wsX1_monthOf := goodIn_r _ [14] (by decide +kernel) (by decide +kernel)
set_option maxRecDepth 20000 in
theorem gX1_daysOf30_X1_monthOf : GoodIn wsX1_daysOf30 (va_wsS RX1 13 yX1_monthOf wsX1_monthOf) := goodIn_app (goodIn_of _ (by decide +kernel)) ggX1_daysOf30_X1_monthOf
theorem dX1_daysOf30_0 : decode cX1_daysOf30 0 = .ok (.iload_n 0, 1) := by decide +kernel
theorem dX1_daysOf30_1 : decode cX1_daysOf30 1 = .ok (.invokestatic 17, 3) := by decide +kernel
theorem dX1_daysOf30_4 : decode cX1_daysOf30 4 = .ok (.bipush 30, 2) := by decide +kernel
theorem dX1_daysOf30_6 : decode cX1_daysOf30 6 = .ok (.invokestatic 34, 3) := by decide +kernel
theorem dX1_daysOf30_9 : decode cX1_daysOf30 9 = .ok (.istore_n 2, 1) := by decide +kernel
theorem dX1_daysOf30_10 : decode cX1_daysOf30 10 = .ok (.iload_n 2, 1) := by decide +kernel
theorem dX1_daysOf30_11 : decode cX1_daysOf30 11 = .ok (.bipush 30, 2) := by decide +kernel
theorem dX1_daysOf30_13 : decode cX1_daysOf30 13 = .ok (.if_icmp .ne 15, 3) := by decide +kernel
theorem dX1_daysOf30_16 : decode cX1_daysOf30 16 = .ok (.iload_n 1, 1) := by decide +kernel
theorem dX1_daysOf30_17 : decode cX1_daysOf30 17 = .ok (.invokestatic 17, 3) := by decide +kernel
theorem dX1_daysOf30_20 : decode cX1_daysOf30 20 = .ok (.bipush 30, 2) := by decide +kernel
theorem dX1_daysOf30_22 : decode cX1_daysOf30 22 = .ok (.invokestatic 34, 3) := by decide +kernel
theorem dX1_daysOf30_25 : decode cX1_daysOf30 25 = .ok (.goto 7, 3) := by decide +kernel
theorem dX1_daysOf30_28 : decode cX1_daysOf30 28 = .ok (.iload_n 1, 1) := by decide +kernel
theorem dX1_daysOf30_29 : decode cX1_daysOf30 29 = .ok (.invokestatic 17, 3) := by decide +kernel
theorem dX1_daysOf30_32 : decode cX1_daysOf30 32 = .ok (.istore_n 3, 1) := by decide +kernel
theorem dX1_daysOf30_33 : decode cX1_daysOf30 33 = .ok (.sipush 360, 3) := by decide +kernel
theorem dX1_daysOf30_36 : decode cX1_daysOf30 36 = .ok (.iload_n 1, 1) := by decide +kernel
theorem dX1_daysOf30_37 : decode cX1_daysOf30 37 = .ok (.invokestatic 20, 3) := by decide +kernel
theorem dX1_daysOf30_40 : decode cX1_daysOf30 40 = .ok (.iload_n 0, 1) := by decide +kernel
theorem dX1_daysOf30_41 : decode cX1_daysOf30 41 = .ok (.invokestatic 20, 3) := by decide +kernel
theorem dX1_daysOf30_44 : decode cX1_daysOf30 44 = .ok (.isub, 1) := by decide +kernel
theorem dX1_daysOf30_45 : decode cX1_daysOf30 45 = .ok (.imul, 1) := by decide +kernel
theorem dX1_daysOf30_46 : decode cX1_daysOf30 46 = .ok (.bipush 30, 2) := by decide +kernel
theorem dX1_daysOf30_48 : decode cX1_daysOf30 48 = .ok (.iload_n 1, 1) := by decide +kernel
theorem dX1_daysOf30_49 : decode cX1_daysOf30 49 = .ok (.invokestatic 13, 3) := by decide +kernel
theorem dX1_daysOf30_52 : decode cX1_daysOf30 52 = .ok (.iload_n 0, 1) := by decide +kernel
theorem dX1_daysOf30_53 : decode cX1_daysOf30 53 = .ok (.invokestatic 13, 3) := by decide +kernel
theorem dX1_daysOf30_56 : decode cX1_daysOf30 56 = .ok (.isub, 1) := by decide +kernel
theorem dX1_daysOf30_57 : decode cX1_daysOf30 57 = .ok (.imul, 1) := by decide +kernel
theorem dX1_daysOf30_58 : decode cX1_daysOf30 58 = .ok (.iadd, 1) := by decide +kernel
theorem dX1_daysOf30_59 : decode cX1_daysOf30 59 = .ok (.iload_n 3, 1) := by decide +kernel
theorem dX1_daysOf30_60 : decode cX1_daysOf30 60 = .ok (.iadd, 1) := by decide +kernel
theorem dX1_daysOf30_61 : decode cX1_daysOf30 61 = .ok (.iload_n 2, 1) := by decide +kernel
theorem dX1_daysOf30_62 : decode cX1_daysOf30 62 = .ok (.isub, 1) := by decide +kernel
theorem dX1_daysOf30_63 : decode cX1_daysOf30 63 = .ok (.ireturn, 1) := by decide +kernel
set_option maxRecDepth 20000 in
theorem ggX1_monthsBack_X1_yearOf : GoodIn wsX1_monthsBack wsX1_yearOf := goodIn_r _ [8] (by decide +kernel) (by decide +kernel)
set_option maxRecDepth 20000 in
theorem gX1_monthsBack_X1_yearOf : GoodIn wsX1_monthsBack (va_wsS RX1 20 yX1_yearOf wsX1_yearOf) := goodIn_app (goodIn_of _ (by decide +kernel)) ggX1_monthsBack_X1_yearOf
set_option maxRecDepth 20000 in
theorem ggX1_monthsBack_X1_monthOf : GoodIn wsX1_monthsBack wsX1_monthOf := goodIn_r _ [11] (by decide +kernel) (by decide +kernel)
set_option maxRecDepth 20000 in
theorem gX1_monthsBack_X1_monthOf : GoodIn wsX1_monthsBack (va_wsS RX1 13 yX1_monthOf wsX1_monthOf) := goodIn_app (goodIn_of _ (by decide +kernel)) ggX1_monthsBack_X1_monthOf
set_option maxRecDepth 20000 in
theorem ggX1_monthsBack_X1_monthLength : GoodIn wsX1_monthsBack wsX1_monthLength := goodIn_r _ [14] (by decide +kernel) (by decide +kernel)
set_option maxRecDepth 20000 in
theorem gX1_monthsBack_X1_monthLength : GoodIn wsX1_monthsBack (va_wsS RX1 23 yX1_monthLength wsX1_monthLength) := goodIn_app (goodIn_of _ (by decide +kernel)) ggX1_monthsBack_X1_monthLength
set_option maxRecDepth 20000 in
theorem ggX1_monthsBack_X1_dayOf : GoodIn wsX1_monthsBack wsX1_dayOf := goodIn_r _ [17] (by decide +kernel) (by decide +kernel)
set_option maxRecDepth 20000 in
theorem gX1_monthsBack_X1_dayOf : GoodIn wsX1_monthsBack (va_wsS RX1 17 yX1_dayOf wsX1_dayOf) := goodIn_app (goodIn_of _ (by decide +kernel)) ggX1_monthsBack_X1_dayOf
theorem dX1_monthsBack_0 : decode cX1_monthsBack 0 = .ok (.bipush 12, 2) := by decide +kernel
theorem dX1_monthsBack_2 : decode cX1_monthsBack 2 = .ok (.iload_n 0, 1) := by decide +kernel
theorem dX1_monthsBack_3 : decode cX1_monthsBack 3 = .ok (.invokestatic 20, 3) := by decide +kernel
theorem dX1_monthsBack_6 : decode cX1_monthsBack 6 = .ok (.imul, 1) := by decide +kernel
theorem dX1_monthsBack_7 : decode cX1_monthsBack 7 = .ok (.iload_n 0, 1) := by decide +kernel
theorem dX1_monthsBack_8 : decode cX1_monthsBack 8 = .ok (.invokestatic 13, 3) := by decide +kernel
theorem dX1_monthsBack_11 : decode cX1_monthsBack 11 = .ok (.iadd, 1) := by decide +kernel
theorem dX1_monthsBack_12 : decode cX1_monthsBack 12 = .ok (.iconst 1, 1) := by decide +kernel
theorem dX1_monthsBack_13 : decode cX1_monthsBack 13 = .ok (.isub, 1) := by decide +kernel
theorem dX1_monthsBack_14 : decode cX1_monthsBack 14 = .ok (.iload_n 1, 1) := by decide +kernel
theorem dX1_monthsBack_15 : decode cX1_monthsBack 15 = .ok (.isub, 1) := by decide +kernel
theorem dX1_monthsBack_16 : decode cX1_monthsBack 16 = .ok (.istore_n 2, 1) := by decide +kernel
theorem dX1_monthsBack_17 : decode cX1_monthsBack 17 = .ok (.iload_n 2, 1) := by decide +kernel
theorem dX1_monthsBack_18 : decode cX1_monthsBack 18 = .ok (.bipush 12, 2) := by decide +kernel
theorem dX1_monthsBack_20 : decode cX1_monthsBack 20 = .ok (.idiv, 1) := by decide +kernel
theorem dX1_monthsBack_21 : decode cX1_monthsBack 21 = .ok (.istore_n 3, 1) := by decide +kernel
theorem dX1_monthsBack_22 : decode cX1_monthsBack 22 = .ok (.iload_n 2, 1) := by decide +kernel
theorem dX1_monthsBack_23 : decode cX1_monthsBack 23 = .ok (.bipush 12, 2) := by decide +kernel
theorem dX1_monthsBack_25 : decode cX1_monthsBack 25 = .ok (.irem, 1) := by decide +kernel
theorem dX1_monthsBack_26 : decode cX1_monthsBack 26 = .ok (.iconst 1, 1) := by decide +kernel
theorem dX1_monthsBack_27 : decode cX1_monthsBack 27 = .ok (.iadd, 1) := by decide +kernel
theorem dX1_monthsBack_28 : decode cX1_monthsBack 28 = .ok (.istore 4, 2) := by decide +kernel
theorem dX1_monthsBack_30 : decode cX1_monthsBack 30 = .ok (.iload_n 3, 1) := by decide +kernel
theorem dX1_monthsBack_31 : decode cX1_monthsBack 31 = .ok (.iload 4, 2) := by decide +kernel
theorem dX1_monthsBack_33 : decode cX1_monthsBack 33 = .ok (.invokestatic 23, 3) := by decide +kernel
theorem dX1_monthsBack_36 : decode cX1_monthsBack 36 = .ok (.istore 5, 2) := by decide +kernel
theorem dX1_monthsBack_38 : decode cX1_monthsBack 38 = .ok (.iload_n 0, 1) := by decide +kernel
theorem dX1_monthsBack_39 : decode cX1_monthsBack 39 = .ok (.invokestatic 17, 3) := by decide +kernel
theorem dX1_monthsBack_42 : decode cX1_monthsBack 42 = .ok (.iload_n 0, 1) := by decide +kernel
theorem dX1_monthsBack_43 : decode cX1_monthsBack 43 = .ok (.invokestatic 20, 3) := by decide +kernel
theorem dX1_monthsBack_46 : decode cX1_monthsBack 46 = .ok (.iload_n 0, 1) := by decide +kernel
theorem dX1_monthsBack_47 : decode cX1_monthsBack 47 = .ok (.invokestatic 13, 3) := by decide +kernel
theorem dX1_monthsBack_50 : decode cX1_monthsBack 50 = .ok (.invokestatic 23, 3) := by decide +kernel
theorem dX1_monthsBack_53 : decode cX1_monthsBack 53 = .ok (.if_icmp .ne 7, 3) := by decide +kernel
theorem dX1_monthsBack_56 : decode cX1_monthsBack 56 = .ok (.iconst 1, 1) := by decide +kernel
theorem dX1_monthsBack_57 : decode cX1_monthsBack 57 = .ok (.goto 4, 3) := by decide +kernel
theorem dX1_monthsBack_60 : decode cX1_monthsBack 60 = .ok (.iconst 0, 1) := by decide +kernel
theorem dX1_monthsBack_61 : decode cX1_monthsBack 61 = .ok (.istore 6, 2) := by decide +kernel
theorem dX1_monthsBack_63 : decode cX1_monthsBack 63 = .ok (.iload 6, 2) := by decide +kernel
theorem dX1_monthsBack_65 : decode cX1_monthsBack 65 = .ok (.ifCond .eq 8, 3) := by decide +kernel
theorem dX1_monthsBack_68 : decode cX1_monthsBack 68 = .ok (.iload 5, 2) := by decide +kernel
theorem dX1_monthsBack_70 : decode cX1_monthsBack 70 = .ok (.goto 12, 3) := by decide +kernel
theorem dX1_monthsBack_73 : decode cX1_monthsBack 73 = .ok (.iload_n 0, 1) := by decide +kernel
theorem dX1_monthsBack_74 : decode cX1_monthsBack 74 = .ok (.invokestatic 17, 3) := by decide +kernel
theorem dX1_monthsBack_77 : decode cX1_monthsBack 77 = .ok (.iload 5, 2) := by decide +kernel
theorem dX1_monthsBack_79 : decode cX1_monthsBack 79 = .ok (.invokestatic 34, 3) := by decide +kernel
theorem dX1_monthsBack_82 : decode cX1_monthsBack 82 = .ok (.istore 7, 2) := by decide +kernel
theorem dX1_monthsBack_84 : decode cX1_monthsBack 84 = .ok (.sipush 10000, 3) := by decide +kernel
theorem dX1_monthsBack_87 : decode cX1_monthsBack 87 = .ok (.iload_n 3, 1) := by decide +kernel
theorem dX1_monthsBack_88 : decode cX1_monthsBack 88 = .ok (.imul, 1) := by decide +kernel
theorem dX1_monthsBack_89 : decode cX1_monthsBack 89 = .ok (.bipush 100, 2) := by decide +kernel
theorem dX1_monthsBack_91 : decode cX1_monthsBack 91 = .ok (.iload 4, 2) := by decide +kernel
theorem dX1_monthsBack_93 : decode cX1_monthsBack 93 = .ok (.imul, 1) := by decide +kernel
theorem dX1_monthsBack_94 : decode cX1_monthsBack 94 = .ok (.iadd, 1) := by decide +kernel
theorem dX1_monthsBack_95 : decode cX1_monthsBack 95 = .ok (.iload 7, 2) := by decide +kernel
theorem dX1_monthsBack_97 : decode cX1_monthsBack 97 = .ok (.iadd, 1) := by decide +kernel
theorem dX1_monthsBack_98 : decode cX1_monthsBack 98 = .ok (.ireturn, 1) := by decide +kernel
theorem dX2_init_0 : decode cX2_init 0 = .ok (.aload_n 0, 1) := by decide +kernel
theorem dX2_init_1 : decode cX2_init 1 = .ok (.invokespecial 1, 3) := by decide +kernel
theorem dX2_init_4 : decode cX2_init 4 = .ok (.return_, 1) := by decide +kernel
theorem dX2_all_0 : decode cX2_all 0 = .ok (.aload_n 0, 1) := by decide +kernel
theorem dX2_all_1 : decode cX2_all 1 = .ok (.getfield 7, 3) := by decide +kernel
theorem dX2_all_4 : decode cX2_all 4 = .ok (.aload_n 0, 1) := by decide +kernel
theorem dX2_all_5 : decode cX2_all 5 = .ok (.getfield 13, 3) := by decide +kernel
theorem dX2_all_8 : decode cX2_all 8 = .ok (.ladd, 1) := by decide +kernel
theorem dX2_all_9 : decode cX2_all 9 = .ok (.aload_n 0, 1) := by decide +kernel
theorem dX2_all_10 : decode cX2_all 10 = .ok (.getfield 16, 3) := by decide +kernel
theorem dX2_all_13 : decode cX2_all 13 = .ok (.ladd, 1) := by decide +kernel
theorem dX2_all_14 : decode cX2_all 14 = .ok (.aload_n 0, 1) := by decide +kernel
theorem dX2_all_15 : decode cX2_all 15 = .ok (.getfield 19, 3) := by decide +kernel
theorem dX2_all_18 : decode cX2_all 18 = .ok (.ladd, 1) := by decide +kernel
theorem dX2_all_19 : decode cX2_all 19 = .ok (.lreturn, 1) := by decide +kernel
set_option maxRecDepth 20000 in
theorem ggX3_init_X3_dateBack : GoodIn wsX3_init wsX3_dateBack := goodIn_r _ [24, 25, 26, 27, 28, 29, 11, 12, 13, 30, 31, 32, 33, 34, 35, 36, 37, 38, 39, 40, 41] (by decide +kernel) (by decide +kernel)
set_option maxRecDepth 20000 in
theorem gX3_init_X3_dateBack : GoodIn wsX3_init (va_wsS RX3 25 yX3_dateBack wsX3_dateBack) := goodIn_app (goodIn_of _ (by decide +kernel)) ggX3_init_X3_dateBack
set_option maxRecDepth 20000 in
theorem ggX3_init_X3_daysCounted : GoodIn wsX3_init wsX3_daysCounted := goodIn_r _ [45, 8, 46, 47, 27, 48, 29, 11, 12, 13, 39, 40, 41, 30, 31, 32, 33, 34, 35, 49, 50, 51, 52, 53, 54, 55, 63, 64, 65, 66, 67, 68, 69, 70, 71] (by decide +kernel) (by decide +kernel)
set_option maxRecDepth 20000 in
theorem gX3_init_X3_daysCounted : GoodIn wsX3_init (wsV RX3 45 RX3 yX3_daysCounted wsX3_daysCounted) := goodIn_app (goodIn_of _ (by decide +kernel)) ggX3_init_X3_daysCounted
set_option maxRecDepth 20000 in
theorem ggX3_init_X3_yearOfPeriod : GoodIn wsX3_init wsX3_yearOfPeriod := goodIn_r _ [59, 8, 60, 18, 61, 9, 62, 7, 49, 50, 27, 51, 52, 53, 54, 55, 63, 64, 65, 66, 67, 68, 69, 70, 71] (by decide +kernel) (by decide +kernel)
set_option maxRecDepth 20000 in
theorem gX3_init_X3_yearOfPeriod : GoodIn wsX3_init (wsV RX3 53 RX3 yX3_yearOfPeriod wsX3_yearOfPeriod) := goodIn_app (goodIn_of _ (by decide +kernel)) ggX3_init_X3_yearOfPeriod
theorem dX3_init_0 : decode cX3_init 0 = .ok (.aload_n 0, 1) := by decide +kernel
theorem dX3_init_1 : decode cX3_init 1 = .ok (.invokespecial 1, 3) := by decide +kernel
theorem dX3_init_4 : decode cX3_init 4 = .ok (.aload_n 0, 1) := by decide +kernel
theorem dX3_init_5 : decode cX3_init 5 = .ok (.iload_n 1, 1) := by decide +kernel
theorem dX3_init_6 : decode cX3_init 6 = .ok (.putfield 7, 3) := by decide +kernel
theorem dX3_init_9 : decode cX3_init 9 = .ok (.aload_n 0, 1) := by decide +kernel
theorem dX3_init_10 : decode cX3_init 10 = .ok (.iload_n 2, 1) := by decide +kernel
theorem dX3_init_11 : decode cX3_init 11 = .ok (.putfield 13, 3) := by decide +kernel
theorem dX3_init_14 : decode cX3_init 14 = .ok (.aload_n 0, 1) := by decide +kernel
theorem dX3_init_15 : decode cX3_init 15 = .ok (.iload_n 3, 1) := by decide +kernel
theorem dX3_init_16 : decode cX3_init 16 = .ok (.putfield 16, 3) := by decide +kernel
theorem dX3_init_19 : decode cX3_init 19 = .ok (.aload_n 0, 1) := by decide +kernel
theorem dX3_init_20 : decode cX3_init 20 = .ok (.iload 4, 2) := by decide +kernel
theorem dX3_init_22 : decode cX3_init 22 = .ok (.putfield 19, 3) := by decide +kernel
theorem dX3_init_25 : decode cX3_init 25 = .ok (.aload_n 0, 1) := by decide +kernel
theorem dX3_init_26 : decode cX3_init 26 = .ok (.iload 5, 2) := by decide +kernel
theorem dX3_init_28 : decode cX3_init 28 = .ok (.putfield 22, 3) := by decide +kernel
theorem dX3_init_31 : decode cX3_init 31 = .ok (.aload_n 0, 1) := by decide +kernel
theorem dX3_init_32 : decode cX3_init 32 = .ok (.iload_n 2, 1) := by decide +kernel
theorem dX3_init_33 : decode cX3_init 33 = .ok (.iload 6, 2) := by decide +kernel
theorem dX3_init_35 : decode cX3_init 35 = .ok (.iload 4, 2) := by decide +kernel
theorem dX3_init_37 : decode cX3_init 37 = .ok (.invokestatic 25, 3) := by decide +kernel
theorem dX3_init_40 : decode cX3_init 40 = .ok (.putfield 29, 3) := by decide +kernel
theorem dX3_init_43 : decode cX3_init 43 = .ok (.aload_n 0, 1) := by decide +kernel
theorem dX3_init_44 : decode cX3_init 44 = .ok (.iconst 0, 1) := by decide +kernel
theorem dX3_init_45 : decode cX3_init 45 = .ok (.iload 6, 2) := by decide +kernel
theorem dX3_init_47 : decode cX3_init 47 = .ok (.bipush 120, 2) := by decide +kernel
theorem dX3_init_49 : decode cX3_init 49 = .ok (.invokestatic 32, 3) := by decide +kernel
theorem dX3_init_52 : decode cX3_init 52 = .ok (.invokestatic 38, 3) := by decide +kernel
theorem dX3_init_55 : decode cX3_init 55 = .ok (.newarray .int, 2) := by decide +kernel
theorem dX3_init_57 : decode cX3_init 57 = .ok (.putfield 41, 3) := by decide +kernel
theorem dX3_init_60 : decode cX3_init 60 = .ok (.iconst 0, 1) := by decide +kernel
theorem dX3_init_61 : decode cX3_init 61 = .ok (.istore 7, 2) := by decide +kernel
theorem dX3_init_63 : decode cX3_init 63 = .ok (.iload 7, 2) := by decide +kernel
theorem dX3_init_65 : decode cX3_init 65 = .ok (.aload_n 0, 1) := by decide +kernel
theorem dX3_init_66 : decode cX3_init 66 = .ok (.getfield 41, 3) := by decide +kernel
theorem dX3_init_69 : decode cX3_init 69 = .ok (.arraylength, 1) := by decide +kernel
theorem dX3_init_70 : decode cX3_init 70 = .ok (.if_icmp .ge 32, 3) := by decide +kernel
theorem dX3_init_73 : decode cX3_init 73 = .ok (.aload_n 0, 1) := by decide +kernel
theorem dX3_init_74 : decode cX3_init 74 = .ok (.getfield 41, 3) := by decide +kernel
theorem dX3_init_77 : decode cX3_init 77 = .ok (.iload 7, 2) := by decide +kernel
theorem dX3_init_79 : decode cX3_init 79 = .ok (.iload_n 2, 1) := by decide +kernel
theorem dX3_init_80 : decode cX3_init 80 = .ok (.aload_n 0, 1) := by decide +kernel
theorem dX3_init_81 : decode cX3_init 81 = .ok (.getfield 41, 3) := by decide +kernel
theorem dX3_init_84 : decode cX3_init 84 = .ok (.arraylength, 1) := by decide +kernel
theorem dX3_init_85 : decode cX3_init 85 = .ok (.iconst 1, 1) := by decide +kernel
theorem dX3_init_86 : decode cX3_init 86 = .ok (.isub, 1) := by decide +kernel
theorem dX3_init_87 : decode cX3_init 87 = .ok (.iload 7, 2) := by decide +kernel
theorem dX3_init_89 : decode cX3_init 89 = .ok (.isub, 1) := by decide +kernel
theorem dX3_init_90 : decode cX3_init 90 = .ok (.iload 4, 2) := by decide +kernel
theorem dX3_init_92 : decode cX3_init 92 = .ok (.invokestatic 25, 3) := by decide +kernel
theorem dX3_init_95 : decode cX3_init 95 = .ok (.iastore, 1) := by decide +kernel
theorem dX3_init_96 : decode cX3_init 96 = .ok (.iinc 7 1, 3) := by decide +kernel
theorem dX3_init_99 : decode cX3_init 99 = .ok (.goto (-36), 3) := by decide +kernel
theorem dX3_init_102 : decode cX3_init 102 = .ok (.aload_n 0, 1) := by decide +kernel
theorem dX3_init_103 : decode cX3_init 103 = .ok (.aload_n 0, 1) := by decide +kernel
theorem dX3_init_104 : decode cX3_init 104 = .ok (.iload_n 1, 1) := by decide +kernel
theorem dX3_init_105 : decode cX3_init 105 = .ok (.aload_n 0, 1) := by decide +kernel
theorem dX3_init_106 : decode cX3_init 106 = .ok (.getfield 41, 3) := by decide +kernel
theorem dX3_init_109 : decode cX3_init 109 = .ok (.arraylength, 1) := by decide +kernel
theorem dX3_init_110 : decode cX3_init 110 = .ok (.ifCond .le 12, 3) := by decide +kernel
theorem dX3_init_113 : decode cX3_init 113 = .ok (.aload_n 0, 1) := by decide +kernel
theorem dX3_init_114 : decode cX3_init 114 = .ok (.getfield 41, 3) := by decide +kernel
theorem dX3_init_117 : decode cX3_init 117 = .ok (.iconst 0, 1) := by decide +kernel
theorem dX3_init_118 : decode cX3_init 118 = .ok (.iaload, 1) := by decide +kernel
theorem dX3_init_119 : decode cX3_init 119 = .ok (.goto 4, 3) := by decide +kernel
theorem dX3_init_122 : decode cX3_init 122 = .ok (.iload_n 2, 1) := by decide +kernel
theorem dX3_init_123 : decode cX3_init 123 = .ok (.invokevirtual 45, 3) := by decide +kernel
theorem dX3_init_126 : decode cX3_init 126 = .ok (.putfield 49, 3) := by decide +kernel
theorem dX3_init_129 : decode cX3_init 129 = .ok (.aload_n 0, 1) := by decide +kernel
theorem dX3_init_130 : decode cX3_init 130 = .ok (.aload_n 0, 1) := by decide +kernel
theorem dX3_init_131 : decode cX3_init 131 = .ok (.iconst 0, 1) := by decide +kernel
theorem dX3_init_132 : decode cX3_init 132 = .ok (.invokevirtual 53, 3) := by decide +kernel
theorem dX3_init_135 : decode cX3_init 135 = .ok (.putfield 57, 3) := by decide +kernel
theorem dX3_init_138 : decode cX3_init 138 = .ok (.return_, 1) := by decide +kernel
set_option maxRecDepth 20000 in
theorem ggX3_dateBack_X1_monthsBack : GoodIn wsX3_dateBack wsX1_monthsBack := goodIn_r _ [4, 5, 6, 7, 8, 9, 10, 3, 11, 12, 13, 14, 15, 16, 17, 18, 19, 20] (by decide +kernel) (by decide +kernel)
set_option maxRecDepth 20000 in
theorem gX3_dateBack_X1_monthsBack : GoodIn wsX3_dateBack (va_wsS RX3 60 yX1_monthsBack wsX1_monthsBack) := goodIn_app (goodIn_of _ (by decide +kernel)) ggX3_dateBack_X1_monthsBack
theorem dX3_dateBack_0 : decode cX3_dateBack 0 = .ok (.iload_n 2, 1) := by decide +kernel
theorem dX3_dateBack_1 : decode cX3_dateBack 1 = .ok (.ifCond .gt 7, 3) := by decide +kernel
theorem dX3_dateBack_4 : decode cX3_dateBack 4 = .ok (.iload_n 0, 1) := by decide +kernel
theorem dX3_dateBack_5 : decode cX3_dateBack 5 = .ok (.goto 13, 3) := by decide +kernel
theorem dX3_dateBack_8 : decode cX3_dateBack 8 = .ok (.iload_n 0, 1) := by decide +kernel
theorem dX3_dateBack_9 : decode cX3_dateBack 9 = .ok (.iload_n 1, 1) := by decide +kernel
theorem dX3_dateBack_10 : decode cX3_dateBack 10 = .ok (.bipush 12, 2) := by decide +kernel
theorem dX3_dateBack_12 : decode cX3_dateBack 12 = .ok (.iload_n 2, 1) := by decide +kernel
theorem dX3_dateBack_13 : decode cX3_dateBack 13 = .ok (.idiv, 1) := by decide +kernel
theorem dX3_dateBack_14 : decode cX3_dateBack 14 = .ok (.imul, 1) := by decide +kernel
theorem dX3_dateBack_15 : decode cX3_dateBack 15 = .ok (.invokestatic 60, 3) := by decide +kernel
theorem dX3_dateBack_18 : decode cX3_dateBack 18 = .ok (.ireturn, 1) := by decide +kernel
set_option maxRecDepth 20000 in
theorem ggX3_countCoupons_X3_dateBack : GoodIn wsX3_countCoupons wsX3_dateBack := goodIn_r _ [4, 5, 6, 7, 8, 9, 10, 11, 12, 13, 14, 15, 16, 17, 18, 19, 20, 21, 22, 23, 24] (by decide +kernel) (by decide +kernel)
set_option maxRecDepth 20000 in
theorem gX3_countCoupons_X3_dateBack : GoodIn wsX3_countCoupons (va_wsS RX3 25 yX3_dateBack wsX3_dateBack) := goodIn_app (goodIn_of _ (by decide +kernel)) ggX3_countCoupons_X3_dateBack
theorem dX3_countCoupons_0 : decode cX3_countCoupons 0 = .ok (.iconst 0, 1) := by decide +kernel
theorem dX3_countCoupons_1 : decode cX3_countCoupons 1 = .ok (.istore_n 3, 1) := by decide +kernel
theorem dX3_countCoupons_2 : decode cX3_countCoupons 2 = .ok (.iload_n 3, 1) := by decide +kernel
theorem dX3_countCoupons_3 : decode cX3_countCoupons 3 = .ok (.bipush 120, 2) := by decide +kernel
theorem dX3_countCoupons_5 : decode cX3_countCoupons 5 = .ok (.if_icmp .gt 19, 3) := by decide +kernel
theorem dX3_countCoupons_8 : decode cX3_countCoupons 8 = .ok (.iload_n 1, 1) := by decide +kernel
theorem dX3_countCoupons_9 : decode cX3_countCoupons 9 = .ok (.iload_n 3, 1) := by decide +kernel
theorem dX3_countCoupons_10 : decode cX3_countCoupons 10 = .ok (.iload_n 2, 1) := by decide +kernel
theorem dX3_countCoupons_11 : decode cX3_countCoupons 11 = .ok (.invokestatic 25, 3) := by decide +kernel
theorem dX3_countCoupons_14 : decode cX3_countCoupons 14 = .ok (.iload_n 0, 1) := by decide +kernel
theorem dX3_countCoupons_15 : decode cX3_countCoupons 15 = .ok (.if_icmp .le 9, 3) := by decide +kernel
theorem dX3_countCoupons_18 : decode cX3_countCoupons 18 = .ok (.iinc 3 1, 3) := by decide +kernel
theorem dX3_countCoupons_21 : decode cX3_countCoupons 21 = .ok (.goto (-19), 3) := by decide +kernel
theorem dX3_countCoupons_24 : decode cX3_countCoupons 24 = .ok (.iload_n 3, 1) := by decide +kernel
theorem dX3_countCoupons_25 : decode cX3_countCoupons 25 = .ok (.ireturn, 1) := by decide +kernel
theorem dX3_firstBehind_0 : decode cX3_firstBehind 0 = .ok (.iconst 0, 1) := by decide +kernel
theorem dX3_firstBehind_1 : decode cX3_firstBehind 1 = .ok (.istore_n 2, 1) := by decide +kernel
theorem dX3_firstBehind_2 : decode cX3_firstBehind 2 = .ok (.iload_n 2, 1) := by decide +kernel
theorem dX3_firstBehind_3 : decode cX3_firstBehind 3 = .ok (.aload_n 0, 1) := by decide +kernel
theorem dX3_firstBehind_4 : decode cX3_firstBehind 4 = .ok (.getfield 41, 3) := by decide +kernel
theorem dX3_firstBehind_7 : decode cX3_firstBehind 7 = .ok (.arraylength, 1) := by decide +kernel
theorem dX3_firstBehind_8 : decode cX3_firstBehind 8 = .ok (.if_icmp .ge 19, 3) := by decide +kernel
theorem dX3_firstBehind_11 : decode cX3_firstBehind 11 = .ok (.aload_n 0, 1) := by decide +kernel
theorem dX3_firstBehind_12 : decode cX3_firstBehind 12 = .ok (.getfield 41, 3) := by decide +kernel
theorem dX3_firstBehind_15 : decode cX3_firstBehind 15 = .ok (.iload_n 2, 1) := by decide +kernel
theorem dX3_firstBehind_16 : decode cX3_firstBehind 16 = .ok (.iaload, 1) := by decide +kernel
theorem dX3_firstBehind_17 : decode cX3_firstBehind 17 = .ok (.iload_n 1, 1) := by decide +kernel
theorem dX3_firstBehind_18 : decode cX3_firstBehind 18 = .ok (.if_icmp .gt 9, 3) := by decide +kernel
theorem dX3_firstBehind_21 : decode cX3_firstBehind 21 = .ok (.iinc 2 1, 3) := by decide +kernel
theorem dX3_firstBehind_24 : decode cX3_firstBehind 24 = .ok (.goto (-22), 3) := by decide +kernel
theorem dX3_firstBehind_27 : decode cX3_firstBehind 27 = .ok (.iload_n 2, 1) := by decide +kernel
theorem dX3_firstBehind_28 : decode cX3_firstBehind 28 = .ok (.ireturn, 1) := by decide +kernel
theorem dX3_beginOf_0 : decode cX3_beginOf 0 = .ok (.iload_n 1, 1) := by decide +kernel
theorem dX3_beginOf_1 : decode cX3_beginOf 1 = .ok (.iconst 1, 1) := by decide +kernel
theorem dX3_beginOf_2 : decode cX3_beginOf 2 = .ok (.if_icmp .lt 23, 3) := by decide +kernel
theorem dX3_beginOf_5 : decode cX3_beginOf 5 = .ok (.iload_n 1, 1) := by decide +kernel
theorem dX3_beginOf_6 : decode cX3_beginOf 6 = .ok (.aload_n 0, 1) := by decide +kernel
theorem dX3_beginOf_7 : decode cX3_beginOf 7 = .ok (.getfield 41, 3) := by decide +kernel
theorem dX3_beginOf_10 : decode cX3_beginOf 10 = .ok (.arraylength, 1) := by decide +kernel
theorem dX3_beginOf_11 : decode cX3_beginOf 11 = .ok (.if_icmp .gt 14, 3) := by decide +kernel
theorem dX3_beginOf_14 : decode cX3_beginOf 14 = .ok (.aload_n 0, 1) := by decide +kernel
theorem dX3_beginOf_15 : decode cX3_beginOf 15 = .ok (.getfield 41, 3) := by decide +kernel
theorem dX3_beginOf_18 : decode cX3_beginOf 18 = .ok (.iload_n 1, 1) := by decide +kernel
theorem dX3_beginOf_19 : decode cX3_beginOf 19 = .ok (.iconst 1, 1) := by decide +kernel
theorem dX3_beginOf_20 : decode cX3_beginOf 20 = .ok (.isub, 1) := by decide +kernel
theorem dX3_beginOf_21 : decode cX3_beginOf 21 = .ok (.iaload, 1) := by decide +kernel
theorem dX3_beginOf_22 : decode cX3_beginOf 22 = .ok (.goto 7, 3) := by decide +kernel
theorem dX3_beginOf_25 : decode cX3_beginOf 25 = .ok (.aload_n 0, 1) := by decide +kernel
theorem dX3_beginOf_26 : decode cX3_beginOf 26 = .ok (.getfield 7, 3) := by decide +kernel
theorem dX3_beginOf_29 : decode cX3_beginOf 29 = .ok (.ireturn, 1) := by decide +kernel
theorem dX3_couponFor_0 : decode cX3_couponFor 0 = .ok (.iload_n 1, 1) := by decide +kernel
theorem dX3_couponFor_1 : decode cX3_couponFor 1 = .ok (.ifCond .ne 45, 3) := by decide +kernel
theorem dX3_couponFor_4 : decode cX3_couponFor 4 = .ok (.aload_n 0, 1) := by decide +kernel
theorem dX3_couponFor_5 : decode cX3_couponFor 5 = .ok (.getfield 29, 3) := by decide +kernel
theorem dX3_couponFor_8 : decode cX3_couponFor 8 = .ok (.aload_n 0, 1) := by decide +kernel
theorem dX3_couponFor_9 : decode cX3_couponFor 9 = .ok (.getfield 7, 3) := by decide +kernel
theorem dX3_couponFor_12 : decode cX3_couponFor 12 = .ok (.if_icmp .ge 34, 3) := by decide +kernel
theorem dX3_couponFor_15 : decode cX3_couponFor 15 = .ok (.aload_n 0, 1) := by decide +kernel
theorem dX3_couponFor_16 : decode cX3_couponFor 16 = .ok (.getfield 57, 3) := by decide +kernel
theorem dX3_couponFor_19 : decode cX3_couponFor 19 = .ok (.lconst 0, 1) := by decide +kernel
theorem dX3_couponFor_20 : decode cX3_couponFor 20 = .ok (.lcmp, 1) := by decide +kernel
theorem dX3_couponFor_21 : decode cX3_couponFor 21 = .ok (.ifCond .gt 7, 3) := by decide +kernel
theorem dX3_couponFor_24 : decode cX3_couponFor 24 = .ok (.lconst 0, 1) := by decide +kernel
theorem dX3_couponFor_25 : decode cX3_couponFor 25 = .ok (.goto 20, 3) := by decide +kernel
theorem dX3_couponFor_28 : decode cX3_couponFor 28 = .ok (.lload_n 2, 1) := by decide +kernel
theorem dX3_couponFor_29 : decode cX3_couponFor 29 = .ok (.aload_n 0, 1) := by decide +kernel
theorem dX3_couponFor_30 : decode cX3_couponFor 30 = .ok (.getfield 16, 3) := by decide +kernel
theorem dX3_couponFor_33 : decode cX3_couponFor 33 = .ok (.i2l, 1) := by decide +kernel
theorem dX3_couponFor_34 : decode cX3_couponFor 34 = .ok (.lmul, 1) := by decide +kernel
theorem dX3_couponFor_35 : decode cX3_couponFor 35 = .ok (.aload_n 0, 1) := by decide +kernel
theorem dX3_couponFor_36 : decode cX3_couponFor 36 = .ok (.getfield 49, 3) := by decide +kernel
theorem dX3_couponFor_39 : decode cX3_couponFor 39 = .ok (.lmul, 1) := by decide +kernel
theorem dX3_couponFor_40 : decode cX3_couponFor 40 = .ok (.aload_n 0, 1) := by decide +kernel
theorem dX3_couponFor_41 : decode cX3_couponFor 41 = .ok (.getfield 57, 3) := by decide +kernel
theorem dX3_couponFor_44 : decode cX3_couponFor 44 = .ok (.ldiv, 1) := by decide +kernel
theorem dX3_couponFor_45 : decode cX3_couponFor 45 = .ok (.lreturn, 1) := by decide +kernel
theorem dX3_couponFor_46 : decode cX3_couponFor 46 = .ok (.ldc2_w 65, 3) := by decide +kernel
theorem dX3_couponFor_49 : decode cX3_couponFor 49 = .ok (.aload_n 0, 1) := by decide +kernel
theorem dX3_couponFor_50 : decode cX3_couponFor 50 = .ok (.getfield 19, 3) := by decide +kernel
theorem dX3_couponFor_53 : decode cX3_couponFor 53 = .ok (.i2l, 1) := by decide +kernel
theorem dX3_couponFor_54 : decode cX3_couponFor 54 = .ok (.lmul, 1) := by decide +kernel
theorem dX3_couponFor_55 : decode cX3_couponFor 55 = .ok (.lstore 4, 2) := by decide +kernel
theorem dX3_couponFor_57 : decode cX3_couponFor 57 = .ok (.lload 4, 2) := by decide +kernel
theorem dX3_couponFor_59 : decode cX3_couponFor 59 = .ok (.lconst 0, 1) := by decide +kernel
theorem dX3_couponFor_60 : decode cX3_couponFor 60 = .ok (.lcmp, 1) := by decide +kernel
theorem dX3_couponFor_61 : decode cX3_couponFor 61 = .ok (.ifCond .gt 7, 3) := by decide +kernel
theorem dX3_couponFor_64 : decode cX3_couponFor 64 = .ok (.lconst 0, 1) := by decide +kernel
theorem dX3_couponFor_65 : decode cX3_couponFor 65 = .ok (.goto 13, 3) := by decide +kernel
theorem dX3_couponFor_68 : decode cX3_couponFor 68 = .ok (.lload_n 2, 1) := by decide +kernel
theorem dX3_couponFor_69 : decode cX3_couponFor 69 = .ok (.aload_n 0, 1) := by decide +kernel
theorem dX3_couponFor_70 : decode cX3_couponFor 70 = .ok (.getfield 16, 3) := by decide +kernel
theorem dX3_couponFor_73 : decode cX3_couponFor 73 = .ok (.i2l, 1) := by decide +kernel
theorem dX3_couponFor_74 : decode cX3_couponFor 74 = .ok (.lmul, 1) := by decide +kernel
theorem dX3_couponFor_75 : decode cX3_couponFor 75 = .ok (.lload 4, 2) := by decide +kernel
theorem dX3_couponFor_77 : decode cX3_couponFor 77 = .ok (.ldiv, 1) := by decide +kernel
theorem dX3_couponFor_78 : decode cX3_couponFor 78 = .ok (.lreturn, 1) := by decide +kernel
set_option maxRecDepth 20000 in
theorem ggX3_accruedFor_X3_firstBehind : GoodIn wsX3_accruedFor wsX3_firstBehind := goodIn_r _ [8, 2, 51, 52, 53, 54, 55, 56, 57, 58, 59] (by decide +kernel) (by decide +kernel)
set_option maxRecDepth 20000 in
theorem gX3_accruedFor_X3_firstBehind : GoodIn wsX3_accruedFor (wsV RX3 67 RX3 yX3_firstBehind wsX3_firstBehind) := goodIn_app (goodIn_of _ (by decide +kernel)) ggX3_accruedFor_X3_firstBehind
set_option maxRecDepth 20000 in
theorem ggX3_accruedFor_X3_yearOfPeriod : GoodIn wsX3_accruedFor wsX3_yearOfPeriod := goodIn_r _ [12, 13, 14, 2, 15, 16, 17, 18, 19, 20, 21, 22, 23, 24, 25, 26, 51, 52, 53, 54, 55, 56, 57, 58, 59] (by decide +kernel) (by decide +kernel)
set_option maxRecDepth 20000 in
theorem gX3_accruedFor_X3_yearOfPeriod : GoodIn wsX3_accruedFor (wsV RX3 53 RX3 yX3_yearOfPeriod wsX3_yearOfPeriod) := goodIn_app (goodIn_of _ (by decide +kernel)) ggX3_accruedFor_X3_yearOfPeriod
set_option maxRecDepth 20000 in
theorem ggX3_accruedFor_X3_beginOf : GoodIn wsX3_accruedFor wsX3_beginOf := goodIn_r _ [30, 2, 1, 51, 52, 53, 54, 55, 56, 57, 58, 59] (by decide +kernel) (by decide +kernel)
set_option maxRecDepth 20000 in
theorem gX3_accruedFor_X3_beginOf : GoodIn wsX3_accruedFor (wsV RX3 71 RX3 yX3_beginOf wsX3_beginOf) := goodIn_app (goodIn_of _ (by decide +kernel)) ggX3_accruedFor_X3_beginOf
set_option maxRecDepth 20000 in
theorem ggX3_accruedFor_X3_daysCounted : GoodIn wsX3_accruedFor wsX3_daysCounted := goodIn_r _ [34, 13, 35, 36, 21, 37, 38, 39, 40, 41, 42, 43, 44, 45, 46, 47, 48, 49, 50, 19, 20, 22, 23, 24, 25, 26, 51, 52, 53, 54, 55, 56, 57, 58, 59] (by decide +kernel) (by decide +kernel)
set_option maxRecDepth 20000 in
theorem gX3_accruedFor_X3_daysCounted : GoodIn wsX3_accruedFor (wsV RX3 45 RX3 yX3_daysCounted wsX3_daysCounted) := goodIn_app (goodIn_of _ (by decide +kernel)) ggX3_accruedFor_X3_daysCounted
theorem dX3_accruedFor_0 : decode cX3_accruedFor 0 = .ok (.aload_n 0, 1) := by decide +kernel
theorem dX3_accruedFor_1 : decode cX3_accruedFor 1 = .ok (.iload_n 1, 1) := by decide +kernel
theorem dX3_accruedFor_2 : decode cX3_accruedFor 2 = .ok (.invokevirtual 67, 3) := by decide +kernel
theorem dX3_accruedFor_5 : decode cX3_accruedFor 5 = .ok (.istore 4, 2) := by decide +kernel
theorem dX3_accruedFor_7 : decode cX3_accruedFor 7 = .ok (.iload_n 1, 1) := by decide +kernel
theorem dX3_accruedFor_8 : decode cX3_accruedFor 8 = .ok (.aload_n 0, 1) := by decide +kernel
theorem dX3_accruedFor_9 : decode cX3_accruedFor 9 = .ok (.getfield 7, 3) := by decide +kernel
theorem dX3_accruedFor_12 : decode cX3_accruedFor 12 = .ok (.if_icmp .lt 13, 3) := by decide +kernel
theorem dX3_accruedFor_15 : decode cX3_accruedFor 15 = .ok (.iload 4, 2) := by decide +kernel
theorem dX3_accruedFor_17 : decode cX3_accruedFor 17 = .ok (.aload_n 0, 1) := by decide +kernel
theorem dX3_accruedFor_18 : decode cX3_accruedFor 18 = .ok (.getfield 41, 3) := by decide +kernel
theorem dX3_accruedFor_21 : decode cX3_accruedFor 21 = .ok (.arraylength, 1) := by decide +kernel
theorem dX3_accruedFor_22 : decode cX3_accruedFor 22 = .ok (.if_icmp .lt 5, 3) := by decide +kernel
theorem dX3_accruedFor_25 : decode cX3_accruedFor 25 = .ok (.lconst 0, 1) := by decide +kernel
theorem dX3_accruedFor_26 : decode cX3_accruedFor 26 = .ok (.lreturn, 1) := by decide +kernel
theorem dX3_accruedFor_27 : decode cX3_accruedFor 27 = .ok (.aload_n 0, 1) := by decide +kernel
theorem dX3_accruedFor_28 : decode cX3_accruedFor 28 = .ok (.iload 4, 2) := by decide +kernel
theorem dX3_accruedFor_30 : decode cX3_accruedFor 30 = .ok (.invokevirtual 53, 3) := by decide +kernel
theorem dX3_accruedFor_33 : decode cX3_accruedFor 33 = .ok (.lstore 5, 2) := by decide +kernel
theorem dX3_accruedFor_35 : decode cX3_accruedFor 35 = .ok (.lload 5, 2) := by decide +kernel
theorem dX3_accruedFor_37 : decode cX3_accruedFor 37 = .ok (.lconst 0, 1) := by decide +kernel
theorem dX3_accruedFor_38 : decode cX3_accruedFor 38 = .ok (.lcmp, 1) := by decide +kernel
theorem dX3_accruedFor_39 : decode cX3_accruedFor 39 = .ok (.ifCond .gt 7, 3) := by decide +kernel
theorem dX3_accruedFor_42 : decode cX3_accruedFor 42 = .ok (.lconst 0, 1) := by decide +kernel
theorem dX3_accruedFor_43 : decode cX3_accruedFor 43 = .ok (.goto 25, 3) := by decide +kernel
theorem dX3_accruedFor_46 : decode cX3_accruedFor 46 = .ok (.lload_n 2, 1) := by decide +kernel
theorem dX3_accruedFor_47 : decode cX3_accruedFor 47 = .ok (.aload_n 0, 1) := by decide +kernel
theorem dX3_accruedFor_48 : decode cX3_accruedFor 48 = .ok (.getfield 16, 3) := by decide +kernel
theorem dX3_accruedFor_51 : decode cX3_accruedFor 51 = .ok (.i2l, 1) := by decide +kernel
theorem dX3_accruedFor_52 : decode cX3_accruedFor 52 = .ok (.lmul, 1) := by decide +kernel
theorem dX3_accruedFor_53 : decode cX3_accruedFor 53 = .ok (.aload_n 0, 1) := by decide +kernel
theorem dX3_accruedFor_54 : decode cX3_accruedFor 54 = .ok (.aload_n 0, 1) := by decide +kernel
theorem dX3_accruedFor_55 : decode cX3_accruedFor 55 = .ok (.iload 4, 2) := by decide +kernel
theorem dX3_accruedFor_57 : decode cX3_accruedFor 57 = .ok (.invokevirtual 71, 3) := by decide +kernel
theorem dX3_accruedFor_60 : decode cX3_accruedFor 60 = .ok (.iload_n 1, 1) := by decide +kernel
theorem dX3_accruedFor_61 : decode cX3_accruedFor 61 = .ok (.invokevirtual 45, 3) := by decide +kernel
theorem dX3_accruedFor_64 : decode cX3_accruedFor 64 = .ok (.lmul, 1) := by decide +kernel
theorem dX3_accruedFor_65 : decode cX3_accruedFor 65 = .ok (.lload 5, 2) := by decide +kernel
theorem dX3_accruedFor_67 : decode cX3_accruedFor 67 = .ok (.ldiv, 1) := by decide +kernel
theorem dX3_accruedFor_68 : decode cX3_accruedFor 68 = .ok (.lreturn, 1) := by decide +kernel
set_option maxRecDepth 20000 in
theorem ggX3_daysCounted_X1_daysOf30 : GoodIn wsX3_daysCounted wsX1_daysOf30 := goodIn_r _ [5, 6, 7, 8, 9, 10, 11, 4, 12, 13, 14, 15, 16, 17, 18] (by decide +kernel) (by decide +kernel)
set_option maxRecDepth 20000 in
theorem gX3_daysCounted_X1_daysOf30 : GoodIn wsX3_daysCounted (va_wsS RX3 74 yX1_daysOf30 wsX1_daysOf30) := goodIn_app (goodIn_of _ (by decide +kernel)) ggX3_daysCounted_X1_daysOf30
set_option maxRecDepth 20000 in
theorem ggX3_daysCounted_X1_daysBetween : GoodIn wsX3_daysCounted wsX1_daysBetween := goodIn_r _ [21, 22, 23, 4, 24, 25] (by decide +kernel) (by decide +kernel)
set_option maxRecDepth 20000 in
theorem gX3_daysCounted_X1_daysBetween : GoodIn wsX3_daysCounted (va_wsS RX3 77 yX1_daysBetween wsX1_daysBetween) := goodIn_app (goodIn_of _ (by decide +kernel)) ggX3_daysCounted_X1_daysBetween
theorem dX3_daysCounted_0 : decode cX3_daysCounted 0 = .ok (.aload_n 0, 1) := by decide +kernel
theorem dX3_daysCounted_1 : decode cX3_daysCounted 1 = .ok (.getfield 22, 3) := by decide +kernel
theorem dX3_daysCounted_4 : decode cX3_daysCounted 4 = .ok (.ifCond .ne 12, 3) := by decide +kernel
theorem dX3_daysCounted_7 : decode cX3_daysCounted 7 = .ok (.iload_n 1, 1) := by decide +kernel
theorem dX3_daysCounted_8 : decode cX3_daysCounted 8 = .ok (.iload_n 2, 1) := by decide +kernel
theorem dX3_daysCounted_9 : decode cX3_daysCounted 9 = .ok (.invokestatic 74, 3) := by decide +kernel
theorem dX3_daysCounted_12 : decode cX3_daysCounted 12 = .ok (.i2l, 1) := by decide +kernel
theorem dX3_daysCounted_13 : decode cX3_daysCounted 13 = .ok (.goto 9, 3) := by decide +kernel
theorem dX3_daysCounted_16 : decode cX3_daysCounted 16 = .ok (.iload_n 1, 1) := by decide +kernel
theorem dX3_daysCounted_17 : decode cX3_daysCounted 17 = .ok (.iload_n 2, 1) := by decide +kernel
theorem dX3_daysCounted_18 : decode cX3_daysCounted 18 = .ok (.invokestatic 77, 3) := by decide +kernel
theorem dX3_daysCounted_21 : decode cX3_daysCounted 21 = .ok (.i2l, 1) := by decide +kernel
theorem dX3_daysCounted_22 : decode cX3_daysCounted 22 = .ok (.lreturn, 1) := by decide +kernel
set_option maxRecDepth 20000 in
theorem ggX3_yearOfPeriod_X1_daysBetween : GoodIn wsX3_yearOfPeriod wsX1_daysBetween := goodIn_r _ [11, 12, 13, 10, 14, 15] (by decide +kernel) (by decide +kernel)
set_option maxRecDepth 20000 in
theorem gX3_yearOfPeriod_X1_daysBetween : GoodIn wsX3_yearOfPeriod (va_wsS RX3 77 yX1_daysBetween wsX1_daysBetween) := goodIn_app (goodIn_of _ (by decide +kernel)) ggX3_yearOfPeriod_X1_daysBetween
theorem dX3_yearOfPeriod_0 : decode cX3_yearOfPeriod 0 = .ok (.aload_n 0, 1) := by decide +kernel
theorem dX3_yearOfPeriod_1 : decode cX3_yearOfPeriod 1 = .ok (.getfield 22, 3) := by decide +kernel
theorem dX3_yearOfPeriod_4 : decode cX3_yearOfPeriod 4 = .ok (.iconst 2, 1) := by decide +kernel
theorem dX3_yearOfPeriod_5 : decode cX3_yearOfPeriod 5 = .ok (.if_icmp .ne 7, 3) := by decide +kernel
theorem dX3_yearOfPeriod_8 : decode cX3_yearOfPeriod 8 = .ok (.ldc2_w 80, 3) := by decide +kernel
theorem dX3_yearOfPeriod_11 : decode cX3_yearOfPeriod 11 = .ok (.lreturn, 1) := by decide +kernel
theorem dX3_yearOfPeriod_12 : decode cX3_yearOfPeriod 12 = .ok (.aload_n 0, 1) := by decide +kernel
theorem dX3_yearOfPeriod_13 : decode cX3_yearOfPeriod 13 = .ok (.getfield 22, 3) := by decide +kernel
theorem dX3_yearOfPeriod_16 : decode cX3_yearOfPeriod 16 = .ok (.iconst 3, 1) := by decide +kernel
theorem dX3_yearOfPeriod_17 : decode cX3_yearOfPeriod 17 = .ok (.if_icmp .ne 16, 3) := by decide +kernel
theorem dX3_yearOfPeriod_20 : decode cX3_yearOfPeriod 20 = .ok (.iload_n 1, 1) := by decide +kernel
theorem dX3_yearOfPeriod_21 : decode cX3_yearOfPeriod 21 = .ok (.ifCond .lt 12, 3) := by decide +kernel
theorem dX3_yearOfPeriod_24 : decode cX3_yearOfPeriod 24 = .ok (.iload_n 1, 1) := by decide +kernel
theorem dX3_yearOfPeriod_25 : decode cX3_yearOfPeriod 25 = .ok (.aload_n 0, 1) := by decide +kernel
theorem dX3_yearOfPeriod_26 : decode cX3_yearOfPeriod 26 = .ok (.getfield 41, 3) := by decide +kernel
theorem dX3_yearOfPeriod_29 : decode cX3_yearOfPeriod 29 = .ok (.arraylength, 1) := by decide +kernel
theorem dX3_yearOfPeriod_30 : decode cX3_yearOfPeriod 30 = .ok (.if_icmp .lt 7, 3) := by decide +kernel
theorem dX3_yearOfPeriod_33 : decode cX3_yearOfPeriod 33 = .ok (.ldc2_w 82, 3) := by decide +kernel
theorem dX3_yearOfPeriod_36 : decode cX3_yearOfPeriod 36 = .ok (.lreturn, 1) := by decide +kernel
theorem dX3_yearOfPeriod_37 : decode cX3_yearOfPeriod 37 = .ok (.iload_n 1, 1) := by decide +kernel
theorem dX3_yearOfPeriod_38 : decode cX3_yearOfPeriod 38 = .ok (.ifCond .ne 10, 3) := by decide +kernel
theorem dX3_yearOfPeriod_41 : decode cX3_yearOfPeriod 41 = .ok (.aload_n 0, 1) := by decide +kernel
theorem dX3_yearOfPeriod_42 : decode cX3_yearOfPeriod 42 = .ok (.getfield 29, 3) := by decide +kernel
theorem dX3_yearOfPeriod_45 : decode cX3_yearOfPeriod 45 = .ok (.goto 11, 3) := by decide +kernel
theorem dX3_yearOfPeriod_48 : decode cX3_yearOfPeriod 48 = .ok (.aload_n 0, 1) := by decide +kernel
theorem dX3_yearOfPeriod_49 : decode cX3_yearOfPeriod 49 = .ok (.getfield 41, 3) := by decide +kernel
theorem dX3_yearOfPeriod_52 : decode cX3_yearOfPeriod 52 = .ok (.iload_n 1, 1) := by decide +kernel
theorem dX3_yearOfPeriod_53 : decode cX3_yearOfPeriod 53 = .ok (.iconst 1, 1) := by decide +kernel
theorem dX3_yearOfPeriod_54 : decode cX3_yearOfPeriod 54 = .ok (.isub, 1) := by decide +kernel
theorem dX3_yearOfPeriod_55 : decode cX3_yearOfPeriod 55 = .ok (.iaload, 1) := by decide +kernel
theorem dX3_yearOfPeriod_56 : decode cX3_yearOfPeriod 56 = .ok (.istore_n 2, 1) := by decide +kernel
theorem dX3_yearOfPeriod_57 : decode cX3_yearOfPeriod 57 = .ok (.ldc2_w 65, 3) := by decide +kernel
theorem dX3_yearOfPeriod_60 : decode cX3_yearOfPeriod 60 = .ok (.aload_n 0, 1) := by decide +kernel
theorem dX3_yearOfPeriod_61 : decode cX3_yearOfPeriod 61 = .ok (.getfield 19, 3) := by decide +kernel
theorem dX3_yearOfPeriod_64 : decode cX3_yearOfPeriod 64 = .ok (.i2l, 1) := by decide +kernel
theorem dX3_yearOfPeriod_65 : decode cX3_yearOfPeriod 65 = .ok (.lmul, 1) := by decide +kernel
theorem dX3_yearOfPeriod_66 : decode cX3_yearOfPeriod 66 = .ok (.iload_n 2, 1) := by decide +kernel
theorem dX3_yearOfPeriod_67 : decode cX3_yearOfPeriod 67 = .ok (.aload_n 0, 1) := by decide +kernel
theorem dX3_yearOfPeriod_68 : decode cX3_yearOfPeriod 68 = .ok (.getfield 41, 3) := by decide +kernel
theorem dX3_yearOfPeriod_71 : decode cX3_yearOfPeriod 71 = .ok (.iload_n 1, 1) := by decide +kernel
theorem dX3_yearOfPeriod_72 : decode cX3_yearOfPeriod 72 = .ok (.iaload, 1) := by decide +kernel
theorem dX3_yearOfPeriod_73 : decode cX3_yearOfPeriod 73 = .ok (.invokestatic 77, 3) := by decide +kernel
theorem dX3_yearOfPeriod_76 : decode cX3_yearOfPeriod 76 = .ok (.i2l, 1) := by decide +kernel
theorem dX3_yearOfPeriod_77 : decode cX3_yearOfPeriod 77 = .ok (.lmul, 1) := by decide +kernel
theorem dX3_yearOfPeriod_78 : decode cX3_yearOfPeriod 78 = .ok (.lreturn, 1) := by decide +kernel
end
section
/-! rows of our own: pictures of a world that a reading method keeps; mirrors as partial functions; their readings -/
abbrev ty3 (cI cJ cO : ClassId) : List (ClassId × FieldType) := [(cI, .int), (cJ, .long), (cO, .object RX0)]
def pz (A : Nat → Prop) (zs : Option Nat) (U : State) (H : Heap) : Prop := ∀ ah : Nat, zs = some ah → va_Z "BondDesk$Dates" "AHEAD" "[I" (.ref ah) A U H
def pw (D : va_G) (tys : List (ClassId × FieldType)) (zs : Option Nat) (ws : va_W) (U : State) : Prop := pz (fun _ => False) zs U U.heap ∧ va_P D vwCl ws U.heap ∧ va_K D vwCl tys U
theorem pw_calling {D : va_G} {tys : List (ClassId × FieldType)} {zs : Option Nat} {ws : va_W} {U : State} {g : JFrame} {mk : MethodId} {a : Array Value} (h : pw D tys zs ws U) : pw D tys zs ws (U.calling g mk a) :=
  ⟨fun ah e => va_Z.moved (u := U) (U := U.calling g mk a) (Vm.Alike.refl U.vm) (h.1 ah e), h.2.1, va_K.moved (u := U) (U := U.calling g mk a) (Vm.Alike.refl U.vm) h.2.2⟩
theorem pw_blind {av : List Value} {D : va_G} {tys : List (ClassId × FieldType)} {zs : Option Nat} {ws : va_W} : FrameBlind (va_Pc av (pw D tys zs ws)) := fun _ _ _ _ q => ⟨q.1, pw_calling q.2⟩
theorem pw_at {D : va_G} {tys : List (ClassId × FieldType)} {zs zs' : Option Nat} {ws ws' : va_W} {s U : State} {H : Heap} {A : Nat → Prop} {locs : List Loc} (hZ : pz A zs s s.heap) (hS : va_S A s.heap H locs) (hP : va_P D vwCl ws H) (hK : va_K D vwCl tys s) (hU : U.heap = H) (hW : s.WarmedH U.vm) (hz : zs' = none ∨ zs' = zs) (is : List Nat) (hs : is.filterMap (fun i => ws[i]?) = ws') : pw D tys zs' ws' U := by
  refine ⟨fun ah e => ?_, ?_, va_K.moved hW.alike hK⟩
  · rcases hz with h | h
    · rw [h] at e; cases e
    · rw [hU]
      exact va_Z.narrow (va_Z.moved hW.alike ((hZ ah (h ▸ e)).kept hS.2.1)) (fun _ f => f.elim)
  · rw [hU]; exact hP.sub is hs
def jn {β γ : Type} (b : β) (k : β → γ) : γ := k b
def bd {α β : Type} (x : α) (k : α → Option β) : Option β := k x
def gd {β : Type} (c : Prop) [Decidable c] (k : Option β) : Option β := if c then k else none
theorem it {β : Type} {c : Prop} {_ : Decidable c} {a b : Option β} {r : β} (h : (if c then a else b) = some r) (hc : c) : a = some r := by rw [if_pos hc] at h; exact h
theorem ie {β : Type} {c : Prop} {_ : Decidable c} {a b : Option β} {r : β} (h : (if c then a else b) = some r) (hc : ¬ c) : b = some r := by rw [if_neg hc] at h; exact h
theorem ob {α β : Type} {o : Option α} {k : α → Option β} {r : β} (h : o.bind k = some r) : ∃ v, o = some v ∧ k v = some r := by
  cases o with
  | none => cases h
  | some v => exact ⟨v, rfl, h⟩
theorem gd_s {β : Type} {c : Prop} {_ : Decidable c} {k : Option β} {r : β} (h : gd c k = some r) : c ∧ k = some r := by
  unfold gd at h
  split at h
  · exact ⟨by assumption, h⟩
  · cases h
theorem bd_s {α β : Type} {x v : α} {k : α → Option β} {r : β} (h : bd x k = some r) (e : v = x) : k v = some r := by subst e; exact h
theorem jn_s {β γ : Type} {b : β} {k : β → Option γ} {r : γ} (h : jn b k = some r) : ∃ K, K = b ∧ k K = some r := ⟨b, rfl, h⟩
theorem kx_s {β : Type} {P : β → Prop} {b : β} (h : P b) : ∃ K, K = b ∧ P K := ⟨b, rfl, h⟩
theorem no_s {β : Type} {r : β} (h : (none : Option β) = some r) : False := by cases h
theorem ne_ti {x y : Int32} (h : ¬ x = y) : ¬ x.toInt = y.toInt := fun e => h (Int32.toInt_inj.mp e)
theorem zn {v : Int32} (h : v = 0 ∨ v = 1) : narrow .boolean (.int v) = .int v := by rcases h with rfl | rfl <;> rfl
section RW
variable {p : Program} {l : Launch} {e : Env} {R : Room} {s : State} {m : MethodId} {args : Array Value} {below : List Frame} {meth : Method} {c : Code} {H : Heap} {locs : List Loc} {cells slots : Nat} {Q : State → Prop}
variable {pc : Nat} {ls : Array Slot} {rest st0 : List Value} {a : Array Value}
abbrev QSi (r : Int32) := vp_Si (fun w => w = r)
abbrev QSz (r : Int32) := vp_Si (fun w => w = r ∧ (w = 0 ∨ w = 1))
abbrev QSl (r : Int64) := vp_Sl (fun w => w = r)
abbrev QSq (r : Option Nat) := va_Sq (fun w => w = r)
theorem cSi {r : Int32} (hr : CallRun p l e R s m args below meth c H locs cells slots 0 0 (F0 m pc ls st0) rest (QSi r a) (fun _ => False))
    (kk : W p l e R s m args below meth c H locs cells slots Q (F0 m (pc + 3) ls (.int r :: rest))) : W p l e R s m args below meth c H locs cells slots Q (F0 m pc ls st0) := vp_callSi hr (fun w h => by rw [h]; exact kk)
theorem cSz {r : Int32} (hr : CallRun p l e R s m args below meth c H locs cells slots 0 0 (F0 m pc ls st0) rest (QSz r a) (fun _ => False))
    (kk : r = 0 ∨ r = 1 → W p l e R s m args below meth c H locs cells slots Q (F0 m (pc + 3) ls (.int r :: rest))) : W p l e R s m args below meth c H locs cells slots Q (F0 m pc ls st0) := vp_callSi hr (fun w h => by obtain ⟨h1, h2⟩ := h; subst h1; exact kk h2)
theorem cSl {r : Int64} (hr : CallRun p l e R s m args below meth c H locs cells slots 0 0 (F0 m pc ls st0) rest (QSl r a) (fun _ => False))
    (kk : W p l e R s m args below meth c H locs cells slots Q (F0 m (pc + 3) ls (.long r :: rest))) : W p l e R s m args below meth c H locs cells slots Q (F0 m pc ls st0) := vp_callSl hr (fun w h => by rw [h]; exact kk)
theorem cSq {r : Option Nat} (hr : CallRun p l e R s m args below meth c H locs cells slots 0 0 (F0 m pc ls st0) rest (QSq r a) (fun _ => False))
    (kk : W p l e R s m args below meth c H locs cells slots Q (F0 m (pc + 3) ls (va_rf r :: rest))) : W p l e R s m args below meth c H locs cells slots Q (F0 m pc ls st0) := va_csq hr (fun w h => by rw [h]; exact kk)
end RW
/-! the cells of the class and of the reference -/
def ahd : Nat → Int32 := fun k => match k with
  | 0 => 0
  | 1 => 31
  | 2 => 59
  | 3 => 90
  | 4 => 120
  | 5 => 151
  | 6 => 181
  | 7 => 212
  | 8 => 243
  | 9 => 273
  | 10 => 304
  | _ => 334
abbrev eA (cI : ClassId) (ah : Nat) : Nat × va_E := (ah, .inl (cI, 12, .inl ahd))
abbrev eD (cI : ClassId) (hd : Nat) (n : Nat) (ds : Nat → Int32) : Nat × va_E := (hd, .inl (cI, n, .inl ds))
abbrev eS (hs hd : Nat) (S : Nat → Int32) (T : Nat → Int64) : Nat × va_E := (hs, .inr (2, [.int (S 0), .int (S 1), .int (S 2), .int (S 3), .int (S 4), .int (S 5), .ref hd, .long (T 7), .long (T 8)]))
abbrev eB (ht hs : Nat) (B : Nat → Int32) : Nat × va_E := (ht, .inr (0, [.ref hs, .int (B 1), .int (B 2), .int (B 3), .int (B 4), .int (B 5), .int (B 6), .int (B 7), .int (B 8)]))
abbrev eM (hm mh mo my mp : Nat) (M : Nat → Int32) (mc : Int64) : Nat × va_E := (hm, .inr (4, [.int (M 0), .int (M 1), .long mc, .int (M 3), .int (M 4), .int (M 5), .ref mh, .ref mo, .ref my, .ref mp]))
abbrev eH (cI : ClassId) (mh : Nat) (mhol : Nat → Int32) : Nat × va_E := (mh, .inl (cI, 30, .inl mhol))
abbrev eO (cI : ClassId) (mo : Nat) (mof : Nat → Int32) : Nat × va_E := (mo, .inl (cI, 140, .inl mof))
abbrev eY (cI : ClassId) (my : Nat) (mdy : Nat → Int32) : Nat × va_E := (my, .inl (cI, 1210, .inl mdy))
abbrev eP (cJ : ClassId) (mp : Nat) (mpd : Nat → Int64) : Nat × va_E := (mp, .inl (cJ, 4, .inr (.inl mpd)))
end
section
def f_X1_yearOf (a0 : Int32) : Option Int32 :=
  some (a0 / 10000)
set_option maxHeartbeats 4000000 in
set_option maxRecDepth 100000 in
theorem m_X1_yearOf (l : Launch) (D : va_G) (cI cJ cO : ClassId) (ah : Nat)  (a0 : Int32) (r : Int32) (hf : f_X1_yearOf a0 = some r) : Met l yX1_yearOf wsX1_yearOf ({ frames := 0, cells := 0, slots := 0, locals := 0 }) (va_Pc [.int a0] (pw D (ty3 cI cJ cO) (some ah) [])) (QSi r) 0 0 (fun _ => False) := by
  refine Met.ofW (cc := cX1_yearOf) (maxL := 1) (ret := (some .int)) (by decide) rfl ?_
  intro p e s m args below meth c s₁ Bd hml hv
  obtain ⟨rfl, hZ, hP, hK⟩ := hv
  have hx := Bd.exec
  have hb := Bd.bytes
  have hr := Bd.returns
  have hts := atoms_spec (ws := wsX1_yearOf) Bd.pre
  have hown : s.vm.findClass RX1 = some m.cls := findClass_of_methodNamed Bd.named
  have hlocks := Bd.notSynchronized
  have hl := lv_entry ([.int a0]) (n := 1) (Nat.le_of_ble_eq_true rfl)
  rw [lg_entry_eq]
  generalize (lg_sl ([.int a0]) ++ List.replicate (1 - (lg_sl ([.int a0])).length) Slot.unset).toArray = ls at hl ⊢
  have hl : lv_has ls 1 [(0, .int a0)] := hl
  unfold f_X1_yearOf at hf
  refine lv_iload_n hx hb dX1_yearOf_0 rfl (lv_at hl 0 rfl) ?_
  refine lv_sipush (v := 10000) hx hb dX1_yearOf_1 (by decide) ?_
  refine lv_idiv hx hb dX1_yearOf_4 (by decide) ?_
  exact W.iret hx hb hr (fun t ht _ => ⟨_, rfl, Option.some.inj hf, ht⟩) (fun q hq => absurd hq List.not_mem_nil) dX1_yearOf_5
def f_X1_monthOf (a0 : Int32) : Option Int32 :=
  some ((a0 / 100) - (a0 / 100) / 100 * 100)
set_option maxHeartbeats 4000000 in
set_option maxRecDepth 100000 in
theorem m_X1_monthOf (l : Launch) (D : va_G) (cI cJ cO : ClassId) (ah : Nat)  (a0 : Int32) (r : Int32) (hf : f_X1_monthOf a0 = some r) : Met l yX1_monthOf wsX1_monthOf ({ frames := 0, cells := 0, slots := 0, locals := 0 }) (va_Pc [.int a0] (pw D (ty3 cI cJ cO) (some ah) [])) (QSi r) 0 0 (fun _ => False) := by
  refine Met.ofW (cc := cX1_monthOf) (maxL := 1) (ret := (some .int)) (by decide) rfl ?_
  intro p e s m args below meth c s₁ Bd hml hv
  obtain ⟨rfl, hZ, hP, hK⟩ := hv
  have hx := Bd.exec
  have hb := Bd.bytes
  have hr := Bd.returns
  have hts := atoms_spec (ws := wsX1_monthOf) Bd.pre
  have hown : s.vm.findClass RX1 = some m.cls := findClass_of_methodNamed Bd.named
  have hlocks := Bd.notSynchronized
  have hl := lv_entry ([.int a0]) (n := 1) (Nat.le_of_ble_eq_true rfl)
  rw [lg_entry_eq]
  generalize (lg_sl ([.int a0]) ++ List.replicate (1 - (lg_sl ([.int a0])).length) Slot.unset).toArray = ls at hl ⊢
  have hl : lv_has ls 1 [(0, .int a0)] := hl
  unfold f_X1_monthOf at hf
  refine lv_iload_n hx hb dX1_monthOf_0 rfl (lv_at hl 0 rfl) ?_
  refine lv_bipush (v := 100) hx hb dX1_monthOf_1 (by decide) ?_
  refine lv_idiv hx hb dX1_monthOf_3 (by decide) ?_
  refine lv_bipush (v := 100) hx hb dX1_monthOf_4 (by decide) ?_
  refine lv_irem hx hb dX1_monthOf_6 (by decide) ?_
  exact W.iret hx hb hr (fun t ht _ => ⟨_, rfl, Option.some.inj hf, ht⟩) (fun q hq => absurd hq List.not_mem_nil) dX1_monthOf_7
def f_X1_dayOf (a0 : Int32) : Option Int32 :=
  some (a0 - a0 / 100 * 100)
set_option maxHeartbeats 4000000 in
set_option maxRecDepth 100000 in
theorem m_X1_dayOf (l : Launch) (D : va_G) (cI cJ cO : ClassId) (ah : Nat)  (a0 : Int32) (r : Int32) (hf : f_X1_dayOf a0 = some r) : Met l yX1_dayOf wsX1_dayOf ({ frames := 0, cells := 0, slots := 0, locals := 0 }) (va_Pc [.int a0] (pw D (ty3 cI cJ cO) (some ah) [])) (QSi r) 0 0 (fun _ => False) := by
  refine Met.ofW (cc := cX1_dayOf) (maxL := 1) (ret := (some .int)) (by decide) rfl ?_
  intro p e s m args below meth c s₁ Bd hml hv
  obtain ⟨rfl, hZ, hP, hK⟩ := hv
  have hx := Bd.exec
  have hb := Bd.bytes
  have hr := Bd.returns
  have hts := atoms_spec (ws := wsX1_dayOf) Bd.pre
  have hown : s.vm.findClass RX1 = some m.cls := findClass_of_methodNamed Bd.named
  have hlocks := Bd.notSynchronized
  have hl := lv_entry ([.int a0]) (n := 1) (Nat.le_of_ble_eq_true rfl)
  rw [lg_entry_eq]
  generalize (lg_sl ([.int a0]) ++ List.replicate (1 - (lg_sl ([.int a0])).length) Slot.unset).toArray = ls at hl ⊢
  have hl : lv_has ls 1 [(0, .int a0)] := hl
  unfold f_X1_dayOf at hf
  refine lv_iload_n hx hb dX1_dayOf_0 rfl (lv_at hl 0 rfl) ?_
  refine lv_bipush (v := 100) hx hb dX1_dayOf_1 (by decide) ?_
  refine lv_irem hx hb dX1_dayOf_3 (by decide) ?_
  exact W.iret hx hb hr (fun t ht _ => ⟨_, rfl, Option.some.inj hf, ht⟩) (fun q hq => absurd hq List.not_mem_nil) dX1_dayOf_4
def f_X1_monthLength (a0 : Int32) (a1 : Int32) : Option Int32 :=
  (if a1 = 2 then (if (a0 - a0 / 4 * 4) = 0 then some 29 else some 28) else (if a1 = 4 then some 30 else (if a1 = 6 then some 30 else (if a1 = 9 then some 30 else (if a1 = 11 then some 30 else some 31)))))
set_option maxHeartbeats 4000000 in
set_option maxRecDepth 100000 in
theorem m_X1_monthLength (l : Launch) (D : va_G) (cI cJ cO : ClassId) (ah : Nat)  (a0 : Int32) (a1 : Int32) (r : Int32) (hf : f_X1_monthLength a0 a1 = some r) : Met l yX1_monthLength wsX1_monthLength ({ frames := 0, cells := 0, slots := 0, locals := 0 }) (va_Pc [.int a0, .int a1] (pw D (ty3 cI cJ cO) (some ah) [])) (QSi r) 0 0 (fun _ => False) := by
  refine Met.ofW (cc := cX1_monthLength) (maxL := 2) (ret := (some .int)) (by decide) rfl ?_
  intro p e s m args below meth c s₁ Bd hml hv
  obtain ⟨rfl, hZ, hP, hK⟩ := hv
  have hx := Bd.exec
  have hb := Bd.bytes
  have hr := Bd.returns
  have hts := atoms_spec (ws := wsX1_monthLength) Bd.pre
  have hown : s.vm.findClass RX1 = some m.cls := findClass_of_methodNamed Bd.named
  have hlocks := Bd.notSynchronized
  have hl := lv_entry ([.int a0, .int a1]) (n := 2) (Nat.le_of_ble_eq_true rfl)
  rw [lg_entry_eq]
  generalize (lg_sl ([.int a0, .int a1]) ++ List.replicate (2 - (lg_sl ([.int a0, .int a1])).length) Slot.unset).toArray = ls at hl ⊢
  have hl : lv_has ls 2 [(0, .int a0), (1, .int a1)] := hl
  unfold f_X1_monthLength at hf
  refine lv_iload_n hx hb dX1_monthLength_0 rfl (lv_at hl 1 rfl) ?_
  refine lv_iconst (v := 2) hx hb dX1_monthLength_1 (by decide) ?_
  refine lv_icmp_ne (tgt := 19) hx hb dX1_monthLength_2 (by decide) (fun c1 => ?_) (fun c1 => ?_)
  · have hf := ie hf c1
    refine lv_iload_n hx hb dX1_monthLength_19 rfl (lv_at hl 1 rfl) ?_
    refine lv_iconst (v := 4) hx hb dX1_monthLength_20 (by decide) ?_
    refine lv_icmp_eq (tgt := 42) hx hb dX1_monthLength_21 (by decide) (fun c2 => ?_) (fun c2 => ?_)
    · have hf := it hf c2
      refine lv_bipush (v := 30) hx hb dX1_monthLength_42 (by decide) ?_
      refine lv_goto (tgt := 49) hx hb dX1_monthLength_44 (by decide) ?_
      exact W.iret hx hb hr (fun t ht _ => ⟨_, rfl, Option.some.inj hf, ht⟩) (fun q hq => absurd hq List.not_mem_nil) dX1_monthLength_49
    · have hf := ie hf c2
      refine lv_iload_n hx hb dX1_monthLength_24 rfl (lv_at hl 1 rfl) ?_
      refine lv_bipush (v := 6) hx hb dX1_monthLength_25 (by decide) ?_
      refine lv_icmp_eq (tgt := 42) hx hb dX1_monthLength_27 (by decide) (fun c3 => ?_) (fun c3 => ?_)
      · have hf := it hf c3
        refine lv_bipush (v := 30) hx hb dX1_monthLength_42 (by decide) ?_
        refine lv_goto (tgt := 49) hx hb dX1_monthLength_44 (by decide) ?_
        exact W.iret hx hb hr (fun t ht _ => ⟨_, rfl, Option.some.inj hf, ht⟩) (fun q hq => absurd hq List.not_mem_nil) dX1_monthLength_49
      · have hf := ie hf c3
        refine lv_iload_n hx hb dX1_monthLength_30 rfl (lv_at hl 1 rfl) ?_
        refine lv_bipush (v := 9) hx hb dX1_monthLength_31 (by decide) ?_
        refine lv_icmp_eq (tgt := 42) hx hb dX1_monthLength_33 (by decide) (fun c4 => ?_) (fun c4 => ?_)
        · have hf := it hf c4
          refine lv_bipush (v := 30) hx hb dX1_monthLength_42 (by decide) ?_
          refine lv_goto (tgt := 49) hx hb dX1_monthLength_44 (by decide) ?_
          exact W.iret hx hb hr (fun t ht _ => ⟨_, rfl, Option.some.inj hf, ht⟩) (fun q hq => absurd hq List.not_mem_nil) dX1_monthLength_49
        · have hf := ie hf c4
          refine lv_iload_n hx hb dX1_monthLength_36 rfl (lv_at hl 1 rfl) ?_
          refine lv_bipush (v := 11) hx hb dX1_monthLength_37 (by decide) ?_
          refine lv_icmp_ne (tgt := 47) hx hb dX1_monthLength_39 (by decide) (fun c5 => ?_) (fun c5 => ?_)
          · have hf := ie hf c5
            refine lv_bipush (v := 31) hx hb dX1_monthLength_47 (by decide) ?_
            exact W.iret hx hb hr (fun t ht _ => ⟨_, rfl, Option.some.inj hf, ht⟩) (fun q hq => absurd hq List.not_mem_nil) dX1_monthLength_49
          · have hf := it hf c5
            refine lv_bipush (v := 30) hx hb dX1_monthLength_42 (by decide) ?_
            refine lv_goto (tgt := 49) hx hb dX1_monthLength_44 (by decide) ?_
            exact W.iret hx hb hr (fun t ht _ => ⟨_, rfl, Option.some.inj hf, ht⟩) (fun q hq => absurd hq List.not_mem_nil) dX1_monthLength_49
  · have hf := it hf c1
    refine lv_iload_n hx hb dX1_monthLength_5 rfl (lv_at hl 0 rfl) ?_
    refine lv_iconst (v := 4) hx hb dX1_monthLength_6 (by decide) ?_
    refine lv_irem hx hb dX1_monthLength_7 (by decide) ?_
    refine lv_if_ne (tgt := 16) hx hb dX1_monthLength_8 (by decide) (fun c6 => ?_) (fun c6 => ?_)
    · have hf := ie hf c6
      refine lv_bipush (v := 28) hx hb dX1_monthLength_16 (by decide) ?_
      exact W.iret hx hb hr (fun t ht _ => ⟨_, rfl, Option.some.inj hf, ht⟩) (fun q hq => absurd hq List.not_mem_nil) dX1_monthLength_18
    · have hf := it hf c6
      refine lv_bipush (v := 29) hx hb dX1_monthLength_11 (by decide) ?_
      refine lv_goto (tgt := 18) hx hb dX1_monthLength_13 (by decide) ?_
      exact W.iret hx hb hr (fun t ht _ => ⟨_, rfl, Option.some.inj hf, ht⟩) (fun q hq => absurd hq List.not_mem_nil) dX1_monthLength_18
def f_X1_isDate (a0 : Int32) : Option Int32 :=
  (if a0 < 20160101 then some 0 else (if a0 ≤ 20661231 then (f_X1_monthOf a0).bind fun v3 : Int32 => (f_X1_dayOf a0).bind fun v4 : Int32 => (if v3 < 1 then some 0 else (if 12 < v3 then some 0 else (if v4 < 1 then some 0 else (f_X1_yearOf a0).bind fun v8 : Int32 => (f_X1_monthLength v8 v3).bind fun v9 : Int32 => (if v9 < v4 then some 0 else some 1)))) else some 0))
set_option maxHeartbeats 4000000 in
set_option maxRecDepth 100000 in
theorem m_X1_isDate (l : Launch) (D : va_G) (cI cJ cO : ClassId) (ah : Nat)  (a0 : Int32) (r : Int32) (hf : f_X1_isDate a0 = some r) : Met l yX1_isDate wsX1_isDate ({ frames := 1, cells := 0, slots := 0, locals := 21 }) (va_Pc [.int a0] (pw D (ty3 cI cJ cO) (some ah) [])) (QSz r) 0 0 (fun _ => False) := by
  refine Met.ofW (cc := cX1_isDate) (maxL := 3) (ret := (some .boolean)) (by decide) rfl ?_
  intro p e s m args below meth c s₁ Bd hml hv
  obtain ⟨rfl, hZ, hP, hK⟩ := hv
  have hx := Bd.exec
  have hb := Bd.bytes
  have hr := Bd.returns
  have hts := atoms_spec (ws := wsX1_isDate) Bd.pre
  have hown : s.vm.findClass RX1 = some m.cls := findClass_of_methodNamed Bd.named
  have hlocks := Bd.notSynchronized
  have hl := lv_entry ([.int a0]) (n := 3) (Nat.le_of_ble_eq_true rfl)
  rw [lg_entry_eq]
  generalize (lg_sl ([.int a0]) ++ List.replicate (3 - (lg_sl ([.int a0])).length) Slot.unset).toArray = ls at hl ⊢
  have hl : lv_has ls 3 [(0, .int a0)] := hl
  unfold f_X1_isDate at hf
  refine lv_iload_n hx hb dX1_isDate_0 rfl (lv_at hl 0 rfl) ?_
  refine lv_ldc hx hb hown (hts (.constant RX1 11 (20160101)) (by decide +kernel)) dX1_isDate_1 ?_
  refine lv_icmp_lt (tgt := 12) hx hb dX1_isDate_3 (by decide) (fun c1 => ?_) (fun c1 => ?_)
  · have hf := it hf c1
    refine lv_iconst (v := 0) hx hb dX1_isDate_12 (by decide) ?_
    exact W.zret hx hb hr (zn (Or.inl rfl)) (fun t ht _ => ⟨_, rfl, ⟨Option.some.inj hf, (Or.inl rfl)⟩, ht⟩) (fun q hq => absurd hq List.not_mem_nil) dX1_isDate_13
  · have hf := ie hf c1
    refine lv_iload_n hx hb dX1_isDate_6 rfl (lv_at hl 0 rfl) ?_
    refine lv_ldc hx hb hown (hts (.constant RX1 12 (20661231)) (by decide +kernel)) dX1_isDate_7 ?_
    refine lv_icmp_le (tgt := 14) hx hb dX1_isDate_9 (by decide) (fun c2 => ?_) (fun c2 => ?_)
    · have hf := it hf c2
      refine lv_iload_n hx hb dX1_isDate_14 rfl (lv_at hl 0 rfl) ?_
      obtain ⟨v3, hv3, hf⟩ := ob hf
      refine cSi (W.runS (As := [.int a0]) (rest := []) ⟨hx, hb, hml, hown, hts⟩ (m_X1_monthOf l D cI cJ cO ah a0 v3 hv3) (va_cwS 1 hts gX1_isDate_X1_monthOf rfl rfl rfl (by decide +kernel) ⟨Nat.le_of_ble_eq_true rfl, Nat.le_of_ble_eq_true rfl⟩) ⟨pw_blind, fun U hU hW => ⟨rfl, pw_at hZ va_S.rf hP hK hU hW (Or.inr rfl) [] rfl⟩⟩ rfl rfl hl.1 rfl (lv_room (Nat.le_of_ble_eq_true rfl)) dX1_isDate_15 ⟨Nat.zero_le _, Nat.zero_le _⟩) ?_
      refine lv_istore_n (lv' := [(1, .int v3), (0, .int a0)]) hx hb dX1_isDate_18 rfl hl (by decide) rfl (fun ls hl => ?_)
      refine lv_iload_n hx hb dX1_isDate_19 rfl (lv_at hl 1 rfl) ?_
      obtain ⟨v4, hv4, hf⟩ := ob hf
      refine cSi (W.runS (As := [.int a0]) (rest := []) ⟨hx, hb, hml, hown, hts⟩ (m_X1_dayOf l D cI cJ cO ah a0 v4 hv4) (va_cwS 1 hts gX1_isDate_X1_dayOf rfl rfl rfl (by decide +kernel) ⟨Nat.le_of_ble_eq_true rfl, Nat.le_of_ble_eq_true rfl⟩) ⟨pw_blind, fun U hU hW => ⟨rfl, pw_at hZ va_S.rf hP hK hU hW (Or.inr rfl) [] rfl⟩⟩ rfl rfl hl.1 rfl (lv_room (Nat.le_of_ble_eq_true rfl)) dX1_isDate_20 ⟨Nat.zero_le _, Nat.zero_le _⟩) ?_
      refine lv_istore_n (lv' := [(2, .int v4), (1, .int v3), (0, .int a0)]) hx hb dX1_isDate_23 rfl hl (by decide) rfl (fun ls hl => ?_)
      refine lv_iload_n hx hb dX1_isDate_24 rfl (lv_at hl 1 rfl) ?_
      refine lv_iconst (v := 1) hx hb dX1_isDate_25 (by decide) ?_
      refine lv_icmp_lt (tgt := 56) hx hb dX1_isDate_26 (by decide) (fun c5 => ?_) (fun c5 => ?_)
      · have hf := it hf c5
        refine lv_iconst (v := 0) hx hb dX1_isDate_56 (by decide) ?_
        exact W.zret hx hb hr (zn (Or.inl rfl)) (fun t ht _ => ⟨_, rfl, ⟨Option.some.inj hf, (Or.inl rfl)⟩, ht⟩) (fun q hq => absurd hq List.not_mem_nil) dX1_isDate_57
      · have hf := ie hf c5
        refine lv_iload_n hx hb dX1_isDate_29 rfl (lv_at hl 1 rfl) ?_
        refine lv_bipush (v := 12) hx hb dX1_isDate_30 (by decide) ?_
        refine lv_icmp_gt (tgt := 56) hx hb dX1_isDate_32 (by decide) (fun c6 => ?_) (fun c6 => ?_)
        · have hf := it hf c6
          refine lv_iconst (v := 0) hx hb dX1_isDate_56 (by decide) ?_
          exact W.zret hx hb hr (zn (Or.inl rfl)) (fun t ht _ => ⟨_, rfl, ⟨Option.some.inj hf, (Or.inl rfl)⟩, ht⟩) (fun q hq => absurd hq List.not_mem_nil) dX1_isDate_57
        · have hf := ie hf c6
          refine lv_iload_n hx hb dX1_isDate_35 rfl (lv_at hl 0 rfl) ?_
          refine lv_iconst (v := 1) hx hb dX1_isDate_36 (by decide) ?_
          refine lv_icmp_lt (tgt := 56) hx hb dX1_isDate_37 (by decide) (fun c7 => ?_) (fun c7 => ?_)
          · have hf := it hf c7
            refine lv_iconst (v := 0) hx hb dX1_isDate_56 (by decide) ?_
            exact W.zret hx hb hr (zn (Or.inl rfl)) (fun t ht _ => ⟨_, rfl, ⟨Option.some.inj hf, (Or.inl rfl)⟩, ht⟩) (fun q hq => absurd hq List.not_mem_nil) dX1_isDate_57
          · have hf := ie hf c7
            refine lv_iload_n hx hb dX1_isDate_40 rfl (lv_at hl 0 rfl) ?_
            refine lv_iload_n hx hb dX1_isDate_41 rfl (lv_at hl 2 rfl) ?_
            obtain ⟨v8, hv8, hf⟩ := ob hf
            refine cSi (W.runS (As := [.int a0]) (rest := [.int v4]) ⟨hx, hb, hml, hown, hts⟩ (m_X1_yearOf l D cI cJ cO ah a0 v8 hv8) (va_cwS 1 hts gX1_isDate_X1_yearOf rfl rfl rfl (by decide +kernel) ⟨Nat.le_of_ble_eq_true rfl, Nat.le_of_ble_eq_true rfl⟩) ⟨pw_blind, fun U hU hW => ⟨rfl, pw_at hZ va_S.rf hP hK hU hW (Or.inr rfl) [] rfl⟩⟩ rfl rfl hl.1 rfl (lv_room (Nat.le_of_ble_eq_true rfl)) dX1_isDate_42 ⟨Nat.zero_le _, Nat.zero_le _⟩) ?_
            refine lv_iload_n hx hb dX1_isDate_45 rfl (lv_at hl 1 rfl) ?_
            obtain ⟨v9, hv9, hf⟩ := ob hf
            refine cSi (W.runS (As := [.int v8, .int v3]) (rest := [.int v4]) ⟨hx, hb, hml, hown, hts⟩ (m_X1_monthLength l D cI cJ cO ah v8 v3 v9 hv9) (va_cwS 2 hts gX1_isDate_X1_monthLength rfl rfl rfl (by decide +kernel) ⟨Nat.le_of_ble_eq_true rfl, Nat.le_of_ble_eq_true rfl⟩) ⟨pw_blind, fun U hU hW => ⟨rfl, pw_at hZ va_S.rf hP hK hU hW (Or.inr rfl) [] rfl⟩⟩ rfl rfl hl.1 rfl (lv_room (Nat.le_of_ble_eq_true rfl)) dX1_isDate_46 ⟨Nat.zero_le _, Nat.zero_le _⟩) ?_
            refine lv_icmp_gt (tgt := 56) hx hb dX1_isDate_49 (by decide) (fun c10 => ?_) (fun c10 => ?_)
            · have hf := it hf c10
              refine lv_iconst (v := 0) hx hb dX1_isDate_56 (by decide) ?_
              exact W.zret hx hb hr (zn (Or.inl rfl)) (fun t ht _ => ⟨_, rfl, ⟨Option.some.inj hf, (Or.inl rfl)⟩, ht⟩) (fun q hq => absurd hq List.not_mem_nil) dX1_isDate_57
            · have hf := ie hf c10
              refine lv_iconst (v := 1) hx hb dX1_isDate_52 (by decide) ?_
              refine lv_goto (tgt := 57) hx hb dX1_isDate_53 (by decide) ?_
              exact W.zret hx hb hr (zn (Or.inr rfl)) (fun t ht _ => ⟨_, rfl, ⟨Option.some.inj hf, (Or.inr rfl)⟩, ht⟩) (fun q hq => absurd hq List.not_mem_nil) dX1_isDate_57
    · have hf := ie hf c2
      refine lv_iconst (v := 0) hx hb dX1_isDate_12 (by decide) ?_
      exact W.zret hx hb hr (zn (Or.inl rfl)) (fun t ht _ => ⟨_, rfl, ⟨Option.some.inj hf, (Or.inl rfl)⟩, ht⟩) (fun q hq => absurd hq List.not_mem_nil) dX1_isDate_13
def f_X1_dayNumber (a0 : Int32) : Option Int32 :=
  bd ((a0 / 10000) - 2016 : Int32) fun x1 : Int32 => bd ((a0 / 100) - (a0 / 100) / 100 * 100 : Int32) fun x2 : Int32 => jn (fun (x4 : Int32) => jn (fun (x6 : Int32) => some ((((((365 * x1) + ((x1 + 3) / 4)) + x4) + x6) + (a0 - a0 / 100 * 100)) - 1)) fun K5 => jn (fun (_ : Unit) => K5 0) fun K7 => (if x2 ≤ 2 then K7 () else (if (x1 - x1 / 4 * 4) = 0 then K5 1 else K7 ()))) fun K3 => jn (fun (_ : Unit) => K3 0) fun K10 => (if x2 < 1 then K10 () else (if 12 < x2 then K10 () else bd (x2 - 1 : Int32) fun x13 : Int32 => gd (¬ (x13 < 0 ∨ 12 ≤ x13.toNatClampNeg)) (K3 (ahd x13.toNatClampNeg))))
set_option maxHeartbeats 4000000 in
set_option maxRecDepth 100000 in
theorem m_X1_dayNumber (l : Launch) (D : va_G) (cI cJ cO : ClassId) (ah : Nat)  (a0 : Int32) (r : Int32) (hf : f_X1_dayNumber a0 = some r) : Met l yX1_dayNumber wsX1_dayNumber ({ frames := 0, cells := 0, slots := 0, locals := 0 }) (va_Pc [.int a0] (pw D (ty3 cI cJ cO) (some ah) [eA cI ah])) (QSi r) 0 0 (fun _ => False) := by
  refine Met.ofW (cc := cX1_dayNumber) (maxL := 5) (ret := (some .int)) (by decide) rfl ?_
  intro p e s m args below meth c s₁ Bd hml hv
  obtain ⟨rfl, hZ, hP, hK⟩ := hv
  have hx := Bd.exec
  have hb := Bd.bytes
  have hr := Bd.returns
  have hts := atoms_spec (ws := wsX1_dayNumber) Bd.pre
  have hown : s.vm.findClass RX1 = some m.cls := findClass_of_methodNamed Bd.named
  have hlocks := Bd.notSynchronized
  have hl := lv_entry ([.int a0]) (n := 5) (Nat.le_of_ble_eq_true rfl)
  rw [lg_entry_eq]
  generalize (lg_sl ([.int a0]) ++ List.replicate (5 - (lg_sl ([.int a0])).length) Slot.unset).toArray = ls at hl ⊢
  have hl : lv_has ls 5 [(0, .int a0)] := hl
  unfold f_X1_dayNumber at hf
  refine lv_iload_n hx hb dX1_dayNumber_0 rfl (lv_at hl 0 rfl) ?_
  refine lv_sipush (v := 10000) hx hb dX1_dayNumber_1 (by decide) ?_
  refine lv_idiv hx hb dX1_dayNumber_4 (by decide) ?_
  refine lv_sipush (v := 2016) hx hb dX1_dayNumber_5 (by decide) ?_
  refine lv_isub hx hb dX1_dayNumber_8 ?_
  refine lv_topi (fun x1 ex1 => ?_)
  have hf := bd_s hf ex1
  refine lv_istore_n (lv' := [(1, .int x1), (0, .int a0)]) hx hb dX1_dayNumber_9 rfl hl (by decide) rfl (fun ls hl => ?_)
  refine lv_iload_n hx hb dX1_dayNumber_10 rfl (lv_at hl 1 rfl) ?_
  refine lv_bipush (v := 100) hx hb dX1_dayNumber_11 (by decide) ?_
  refine lv_idiv hx hb dX1_dayNumber_13 (by decide) ?_
  refine lv_bipush (v := 100) hx hb dX1_dayNumber_14 (by decide) ?_
  refine lv_irem hx hb dX1_dayNumber_16 (by decide) ?_
  refine lv_topi (fun x2 ex2 => ?_)
  have hf := bd_s hf ex2
  refine lv_istore_n (lv' := [(2, .int x2), (1, .int x1), (0, .int a0)]) hx hb dX1_dayNumber_17 rfl hl (by decide) rfl (fun ls hl => ?_)
  refine lv_iload_n hx hb dX1_dayNumber_18 rfl (lv_at hl 0 rfl) ?_
  refine lv_iconst (v := 1) hx hb dX1_dayNumber_19 (by decide) ?_
  obtain ⟨K3, hK3, hf⟩ := jn_s hf
  have JK3 : ∀ (x4 : Int32) (ls : Array Slot), lv_has ls 5 [(0, .int a0), (1, .int x1), (2, .int x2)] → K3 x4 = some r → W p l e (headSpec wsX1_dayNumber ({ frames := 0, cells := 0, slots := 0, locals := 0 })).room s m ([.int a0] : List Value).toArray below meth c s.heap [] 0 0 (MQ below (QSi r) ([.int a0] : List Value).toArray s 0 0 (fun _ => False)) (F0 m 42 ls [.int x4]) := by
    intro x4 ls hl hf
    rw [hK3] at hf
    refine lv_istore_n (lv' := [(3, .int x4), (0, .int a0), (1, .int x1), (2, .int x2)]) hx hb dX1_dayNumber_42 rfl hl (by decide) rfl (fun ls hl => ?_)
    refine lv_iload_n hx hb dX1_dayNumber_43 rfl (lv_at hl 3 rfl) ?_
    refine lv_iconst (v := 2) hx hb dX1_dayNumber_44 (by decide) ?_
    obtain ⟨K5, hK5, hf⟩ := jn_s hf
    have JK5 : ∀ (x6 : Int32) (ls : Array Slot), lv_has ls 5 [(0, .int a0), (1, .int x1), (3, .int x4)] → K5 x6 = some r → W p l e (headSpec wsX1_dayNumber ({ frames := 0, cells := 0, slots := 0, locals := 0 })).room s m ([.int a0] : List Value).toArray below meth c s.heap [] 0 0 (MQ below (QSi r) ([.int a0] : List Value).toArray s 0 0 (fun _ => False)) (F0 m 59 ls [.int x6]) := by
      intro x6 ls hl hf
      rw [hK5] at hf
      refine lv_istore (lv' := [(4, .int x6), (0, .int a0), (1, .int x1), (3, .int x4)]) hx hb dX1_dayNumber_59 hl (by decide) rfl (fun ls hl => ?_)
      refine lv_sipush (v := 365) hx hb dX1_dayNumber_61 (by decide) ?_
      refine lv_iload_n hx hb dX1_dayNumber_64 rfl (lv_at hl 2 rfl) ?_
      refine lv_imul hx hb dX1_dayNumber_65 ?_
      refine lv_iload_n hx hb dX1_dayNumber_66 rfl (lv_at hl 2 rfl) ?_
      refine lv_iconst (v := 3) hx hb dX1_dayNumber_67 (by decide) ?_
      refine lv_iadd hx hb dX1_dayNumber_68 ?_
      refine lv_iconst (v := 4) hx hb dX1_dayNumber_69 (by decide) ?_
      refine lv_idiv hx hb dX1_dayNumber_70 (by decide) ?_
      refine lv_iadd hx hb dX1_dayNumber_71 ?_
      refine lv_iload_n hx hb dX1_dayNumber_72 rfl (lv_at hl 3 rfl) ?_
      refine lv_iadd hx hb dX1_dayNumber_73 ?_
      refine lv_iload hx hb dX1_dayNumber_74 (lv_at hl 0 rfl) ?_
      refine lv_iadd hx hb dX1_dayNumber_76 ?_
      refine lv_iload_n hx hb dX1_dayNumber_77 rfl (lv_at hl 1 rfl) ?_
      refine lv_bipush (v := 100) hx hb dX1_dayNumber_78 (by decide) ?_
      refine lv_irem hx hb dX1_dayNumber_80 (by decide) ?_
      refine lv_iadd hx hb dX1_dayNumber_81 ?_
      refine lv_iconst (v := 1) hx hb dX1_dayNumber_82 (by decide) ?_
      refine lv_isub hx hb dX1_dayNumber_83 ?_
      exact W.iret hx hb hr (fun t ht _ => ⟨_, rfl, Option.some.inj hf, ht⟩) (fun q hq => absurd hq List.not_mem_nil) dX1_dayNumber_84
    obtain ⟨K7, hK7, hf⟩ := jn_s hf
    have JK7 : ∀  (ls : Array Slot), lv_has ls 5 [(0, .int a0), (1, .int x1), (3, .int x4)] → K7 () = some r → W p l e (headSpec wsX1_dayNumber ({ frames := 0, cells := 0, slots := 0, locals := 0 })).room s m ([.int a0] : List Value).toArray below meth c s.heap [] 0 0 (MQ below (QSi r) ([.int a0] : List Value).toArray s 0 0 (fun _ => False)) (F0 m 58 ls []) := by
      intro  ls hl hf
      rw [hK7] at hf
      refine lv_iconst (v := 0) hx hb dX1_dayNumber_58 (by decide) ?_
      exact JK5 0 ls (lv_sub hl [0, 1, 2] rfl) hf
    refine lv_icmp_le (tgt := 58) hx hb dX1_dayNumber_45 (by decide) (fun c8 => ?_) (fun c8 => ?_)
    · have hf := it hf c8
      exact JK7  ls (lv_sub hl [1, 2, 0] rfl) hf
    · have hf := ie hf c8
      refine lv_iload_n hx hb dX1_dayNumber_48 rfl (lv_at hl 2 rfl) ?_
      refine lv_iconst (v := 4) hx hb dX1_dayNumber_49 (by decide) ?_
      refine lv_irem hx hb dX1_dayNumber_50 (by decide) ?_
      refine lv_if_ne (tgt := 58) hx hb dX1_dayNumber_51 (by decide) (fun c9 => ?_) (fun c9 => ?_)
      · have hf := ie hf c9
        exact JK7  ls (lv_sub hl [1, 2, 0] rfl) hf
      · have hf := it hf c9
        refine lv_iconst (v := 1) hx hb dX1_dayNumber_54 (by decide) ?_
        refine lv_goto (tgt := 59) hx hb dX1_dayNumber_55 (by decide) ?_
        exact JK5 1 ls (lv_sub hl [1, 2, 0] rfl) hf
  obtain ⟨K10, hK10, hf⟩ := jn_s hf
  have JK10 : ∀  (ls : Array Slot), lv_has ls 5 [(0, .int a0), (1, .int x1), (2, .int x2)] → K10 () = some r → W p l e (headSpec wsX1_dayNumber ({ frames := 0, cells := 0, slots := 0, locals := 0 })).room s m ([.int a0] : List Value).toArray below meth c s.heap [] 0 0 (MQ below (QSi r) ([.int a0] : List Value).toArray s 0 0 (fun _ => False)) (F0 m 41 ls []) := by
    intro  ls hl hf
    rw [hK10] at hf
    refine lv_iconst (v := 0) hx hb dX1_dayNumber_41 (by decide) ?_
    exact JK3 0 ls (lv_sub hl [0, 1, 2] rfl) hf
  refine lv_icmp_lt (tgt := 41) hx hb dX1_dayNumber_20 (by decide) (fun c11 => ?_) (fun c11 => ?_)
  · have hf := it hf c11
    exact JK10  ls (lv_sub hl [2, 1, 0] rfl) hf
  · have hf := ie hf c11
    refine lv_iload_n hx hb dX1_dayNumber_23 rfl (lv_at hl 0 rfl) ?_
    refine va_gets hx hb (hZ ah rfl) va_S.rf hown (hts (.fieldLink RX1 27 "BondDesk$Dates" "AHEAD" "[I") (by decide +kernel)) (fun _ h9 => h9) dX1_dayNumber_24 ?_
    refine va_alen (v := 12) hx hb hK hP 0 0 rfl rfl rfl dX1_dayNumber_27 ?_
    refine lv_icmp_gt (tgt := 41) hx hb dX1_dayNumber_28 (by decide) (fun c12 => ?_) (fun c12 => ?_)
    · have hf := it hf c12
      exact JK10  ls (lv_sub hl [2, 1, 0] rfl) hf
    · have hf := ie hf c12
      refine va_gets hx hb (hZ ah rfl) va_S.rf hown (hts (.fieldLink RX1 27 "BondDesk$Dates" "AHEAD" "[I") (by decide +kernel)) (fun _ h9 => h9) dX1_dayNumber_31 ?_
      refine lv_iload_n hx hb dX1_dayNumber_34 rfl (lv_at hl 0 rfl) ?_
      refine lv_iconst (v := 1) hx hb dX1_dayNumber_35 (by decide) ?_
      refine lv_isub hx hb dX1_dayNumber_36 ?_
      refine lv_topi (fun x13 ex13 => ?_)
      have hf := bd_s hf ex13
      obtain ⟨c14, hf⟩ := gd_s hf
      refine va_iald hx hb hK hP 0 0 rfl rfl c14 dX1_dayNumber_37 ?_
      refine lv_goto (tgt := 42) hx hb dX1_dayNumber_38 (by decide) ?_
      exact JK3 (ahd x13.toNatClampNeg) ls (lv_sub hl [2, 1, 0] rfl) hf
def f_X1_dateOf_L31 (x2 : Int32) (K6 : Int32 → Int32 → Option Int32) : Nat → Int32 → Int32 → Option Int32
  | 0, _, _ => none
  | n9 + 1, x4, x5 => (if 12 ≤ x5 then K6 x4 x5 else (f_X1_monthLength x2 x5).bind fun v11 : Int32 => (if x4 < v11 then K6 x4 x5 else (f_X1_monthLength x2 x5).bind fun v13 : Int32 => bd (x4 - v13 : Int32) fun x14 : Int32 => bd (x5 + 1) fun x15 : Int32 => f_X1_dateOf_L31 x2 K6 n9 x14 x15))
def f_X1_dateOf (N : Nat) (a0 : Int32) : Option Int32 :=
  bd ((4 * a0) / 1461 : Int32) fun x1 : Int32 => bd (2016 + x1 : Int32) fun x2 : Int32 => bd ((a0 - (365 * x1)) - ((x1 + 3) / 4) : Int32) fun x3 : Int32 => f_X1_dateOf_L31 x2 (fun (x7 : Int32) (x8 : Int32) => some ((((10000 * x2) + (100 * x8)) + x7) + 1)) N x3 1
set_option maxHeartbeats 4000000 in
set_option maxRecDepth 100000 in
theorem m_X1_dateOf (l : Launch) (D : va_G) (cI cJ cO : ClassId) (ah : Nat)  (a0 : Int32) (N : Nat) (r : Int32) (hf : f_X1_dateOf N a0 = some r) : Met l yX1_dateOf wsX1_dateOf ({ frames := 1, cells := 0, slots := 0, locals := 21 }) (va_Pc [.int a0] (pw D (ty3 cI cJ cO) (some ah) [])) (QSi r) 0 0 (fun _ => False) := by
  refine Met.ofW (cc := cX1_dateOf) (maxL := 5) (ret := (some .int)) (by decide) rfl ?_
  intro p e s m args below meth c s₁ Bd hml hv
  obtain ⟨rfl, hZ, hP, hK⟩ := hv
  have hx := Bd.exec
  have hb := Bd.bytes
  have hr := Bd.returns
  have hts := atoms_spec (ws := wsX1_dateOf) Bd.pre
  have hown : s.vm.findClass RX1 = some m.cls := findClass_of_methodNamed Bd.named
  have hlocks := Bd.notSynchronized
  have hl := lv_entry ([.int a0]) (n := 5) (Nat.le_of_ble_eq_true rfl)
  rw [lg_entry_eq]
  generalize (lg_sl ([.int a0]) ++ List.replicate (5 - (lg_sl ([.int a0])).length) Slot.unset).toArray = ls at hl ⊢
  have hl : lv_has ls 5 [(0, .int a0)] := hl
  unfold f_X1_dateOf at hf
  refine lv_iconst (v := 4) hx hb dX1_dateOf_0 (by decide) ?_
  refine lv_iload_n hx hb dX1_dateOf_1 rfl (lv_at hl 0 rfl) ?_
  refine lv_imul hx hb dX1_dateOf_2 ?_
  refine lv_sipush (v := 1461) hx hb dX1_dateOf_3 (by decide) ?_
  refine lv_idiv hx hb dX1_dateOf_6 (by decide) ?_
  refine lv_topi (fun x1 ex1 => ?_)
  have hf := bd_s hf ex1
  refine lv_istore_n (lv' := [(1, .int x1), (0, .int a0)]) hx hb dX1_dateOf_7 rfl hl (by decide) rfl (fun ls hl => ?_)
  refine lv_sipush (v := 2016) hx hb dX1_dateOf_8 (by decide) ?_
  refine lv_iload_n hx hb dX1_dateOf_11 rfl (lv_at hl 0 rfl) ?_
  refine lv_iadd hx hb dX1_dateOf_12 ?_
  refine lv_topi (fun x2 ex2 => ?_)
  have hf := bd_s hf ex2
  refine lv_istore_n (lv' := [(2, .int x2), (1, .int x1), (0, .int a0)]) hx hb dX1_dateOf_13 rfl hl (by decide) rfl (fun ls hl => ?_)
  refine lv_iload_n hx hb dX1_dateOf_14 rfl (lv_at hl 2 rfl) ?_
  refine lv_sipush (v := 365) hx hb dX1_dateOf_15 (by decide) ?_
  refine lv_iload_n hx hb dX1_dateOf_18 rfl (lv_at hl 1 rfl) ?_
  refine lv_imul hx hb dX1_dateOf_19 ?_
  refine lv_isub hx hb dX1_dateOf_20 ?_
  refine lv_iload_n hx hb dX1_dateOf_21 rfl (lv_at hl 1 rfl) ?_
  refine lv_iconst (v := 3) hx hb dX1_dateOf_22 (by decide) ?_
  refine lv_iadd hx hb dX1_dateOf_23 ?_
  refine lv_iconst (v := 4) hx hb dX1_dateOf_24 (by decide) ?_
  refine lv_idiv hx hb dX1_dateOf_25 (by decide) ?_
  refine lv_isub hx hb dX1_dateOf_26 ?_
  refine lv_topi (fun x3 ex3 => ?_)
  have hf := bd_s hf ex3
  refine lv_istore_n (lv' := [(3, .int x3), (2, .int x2), (1, .int x1), (0, .int a0)]) hx hb dX1_dateOf_27 rfl hl (by decide) rfl (fun ls hl => ?_)
  refine lv_iconst (v := 1) hx hb dX1_dateOf_28 (by decide) ?_
  refine lv_istore (lv' := [(4, .int 1), (3, .int x3), (2, .int x2), (1, .int x1), (0, .int a0)]) hx hb dX1_dateOf_29 hl (by decide) rfl (fun ls hl => ?_)
  obtain ⟨K6, hK6, hf⟩ := kx_s (P := fun k => f_X1_dateOf_L31 x2 k N x3 1 = some r) hf
  have JK6 : ∀ (x7 : Int32) (x8 : Int32) (ls : Array Slot), lv_has ls 5 [(2, .int x2), (3, .int x7), (4, .int x8)] → K6 x7 x8 = some r → W p l e (headSpec wsX1_dateOf ({ frames := 1, cells := 0, slots := 0, locals := 21 })).room s m ([.int a0] : List Value).toArray below meth c s.heap [] 0 0 (MQ below (QSi r) ([.int a0] : List Value).toArray s 0 0 (fun _ => False)) (F0 m 63 ls []) := by
    intro x7 x8 ls hl hf
    rw [hK6] at hf
    refine lv_sipush (v := 10000) hx hb dX1_dateOf_63 (by decide) ?_
    refine lv_iload_n hx hb dX1_dateOf_66 rfl (lv_at hl 0 rfl) ?_
    refine lv_imul hx hb dX1_dateOf_67 ?_
    refine lv_bipush (v := 100) hx hb dX1_dateOf_68 (by decide) ?_
    refine lv_iload hx hb dX1_dateOf_70 (lv_at hl 2 rfl) ?_
    refine lv_imul hx hb dX1_dateOf_72 ?_
    refine lv_iadd hx hb dX1_dateOf_73 ?_
    refine lv_iload_n hx hb dX1_dateOf_74 rfl (lv_at hl 1 rfl) ?_
    refine lv_iadd hx hb dX1_dateOf_75 ?_
    refine lv_iconst (v := 1) hx hb dX1_dateOf_76 (by decide) ?_
    refine lv_iadd hx hb dX1_dateOf_77 ?_
    exact W.iret hx hb hr (fun t ht _ => ⟨_, rfl, Option.some.inj hf, ht⟩) (fun q hq => absurd hq List.not_mem_nil) dX1_dateOf_78
  have LP31 : ∀ (n9 : Nat) (x4 : Int32) (x5 : Int32) (ls : Array Slot), lv_has ls 5 [(2, .int x2), (3, .int x4), (4, .int x5)] → f_X1_dateOf_L31 x2 K6 n9 x4 x5 = some r → W p l e (headSpec wsX1_dateOf ({ frames := 1, cells := 0, slots := 0, locals := 21 })).room s m ([.int a0] : List Value).toArray below meth c s.heap [] 0 0 (MQ below (QSi r) ([.int a0] : List Value).toArray s 0 0 (fun _ => False)) (F0 m 31 ls []) := by
    intro n9
    induction n9 with
    | zero => intro x4 x5 ls hl hf; exact (no_s hf).elim
    | succ n9 ih9 =>
      intro x4 x5 ls hl hf
      rw [f_X1_dateOf_L31] at hf
      refine lv_iload hx hb dX1_dateOf_31 (lv_at hl 2 rfl) ?_
      refine lv_bipush (v := 12) hx hb dX1_dateOf_33 (by decide) ?_
      refine lv_icmp_ge (tgt := 63) hx hb dX1_dateOf_35 (by decide) (fun c10 => ?_) (fun c10 => ?_)
      · have hf := it hf c10
        exact JK6 x4 x5 ls (lv_sub hl [0, 1, 2] rfl) hf
      · have hf := ie hf c10
        refine lv_iload_n hx hb dX1_dateOf_38 rfl (lv_at hl 1 rfl) ?_
        refine lv_iload_n hx hb dX1_dateOf_39 rfl (lv_at hl 0 rfl) ?_
        refine lv_iload hx hb dX1_dateOf_40 (lv_at hl 2 rfl) ?_
        obtain ⟨v11, hv11, hf⟩ := ob hf
        refine cSi (W.runS (As := [.int x2, .int x5]) (rest := [.int x4]) ⟨hx, hb, hml, hown, hts⟩ (m_X1_monthLength l D cI cJ cO ah x2 x5 v11 hv11) (va_cwS 2 hts gX1_dateOf_X1_monthLength rfl rfl rfl (by decide +kernel) ⟨Nat.le_of_ble_eq_true rfl, Nat.le_of_ble_eq_true rfl⟩) ⟨pw_blind, fun U hU hW => ⟨rfl, pw_at hZ va_S.rf hP hK hU hW (Or.inr rfl) [] rfl⟩⟩ rfl rfl hl.1 rfl (lv_room (Nat.le_of_ble_eq_true rfl)) dX1_dateOf_42 ⟨Nat.zero_le _, Nat.zero_le _⟩) ?_
        refine lv_icmp_lt (tgt := 63) hx hb dX1_dateOf_45 (by decide) (fun c12 => ?_) (fun c12 => ?_)
        · have hf := it hf c12
          exact JK6 x4 x5 ls (lv_sub hl [0, 1, 2] rfl) hf
        · have hf := ie hf c12
          refine lv_iload_n hx hb dX1_dateOf_48 rfl (lv_at hl 1 rfl) ?_
          refine lv_iload_n hx hb dX1_dateOf_49 rfl (lv_at hl 0 rfl) ?_
          refine lv_iload hx hb dX1_dateOf_50 (lv_at hl 2 rfl) ?_
          obtain ⟨v13, hv13, hf⟩ := ob hf
          refine cSi (W.runS (As := [.int x2, .int x5]) (rest := [.int x4]) ⟨hx, hb, hml, hown, hts⟩ (m_X1_monthLength l D cI cJ cO ah x2 x5 v13 hv13) (va_cwS 2 hts gX1_dateOf_X1_monthLength rfl rfl rfl (by decide +kernel) ⟨Nat.le_of_ble_eq_true rfl, Nat.le_of_ble_eq_true rfl⟩) ⟨pw_blind, fun U hU hW => ⟨rfl, pw_at hZ va_S.rf hP hK hU hW (Or.inr rfl) [] rfl⟩⟩ rfl rfl hl.1 rfl (lv_room (Nat.le_of_ble_eq_true rfl)) dX1_dateOf_52 ⟨Nat.zero_le _, Nat.zero_le _⟩) ?_
          refine lv_isub hx hb dX1_dateOf_55 ?_
          refine lv_topi (fun x14 ex14 => ?_)
          have hf := bd_s hf ex14
          refine lv_istore_n (lv' := [(3, .int x14), (2, .int x2), (4, .int x5)]) hx hb dX1_dateOf_56 rfl hl (by decide) rfl (fun ls hl => ?_)
          obtain ⟨x15, ex15⟩ : ∃ y : Int32, y = x5 + 1 := ⟨_, rfl⟩
          have hf := bd_s hf ex15
          refine lv_iinc (v := x15) (lv' := [(4, .int x15), (3, .int x14), (2, .int x2)]) hx hb dX1_dateOf_57 hl (k := 2) rfl (by rw [ex15]; rfl) (by decide) rfl (fun ls hl => ?_)
          refine lv_goto (tgt := 31) hx hb dX1_dateOf_60 (by decide) ?_
          exact ih9 x14 x15 ls (lv_sub hl [2, 1, 0] rfl) hf
  exact LP31 N x3 1 ls (lv_sub hl [2, 1, 0] rfl) hf
def f_X1_dayOfWeek (a0 : Int32) : Option Int32 :=
  some ((a0 + 4) - (a0 + 4) / 7 * 7)
set_option maxHeartbeats 4000000 in
set_option maxRecDepth 100000 in
theorem m_X1_dayOfWeek (l : Launch) (D : va_G) (cI cJ cO : ClassId) (ah : Nat)  (a0 : Int32) (r : Int32) (hf : f_X1_dayOfWeek a0 = some r) : Met l yX1_dayOfWeek wsX1_dayOfWeek ({ frames := 0, cells := 0, slots := 0, locals := 0 }) (va_Pc [.int a0] (pw D (ty3 cI cJ cO) (some ah) [])) (QSi r) 0 0 (fun _ => False) := by
  refine Met.ofW (cc := cX1_dayOfWeek) (maxL := 1) (ret := (some .int)) (by decide) rfl ?_
  intro p e s m args below meth c s₁ Bd hml hv
  obtain ⟨rfl, hZ, hP, hK⟩ := hv
  have hx := Bd.exec
  have hb := Bd.bytes
  have hr := Bd.returns
  have hts := atoms_spec (ws := wsX1_dayOfWeek) Bd.pre
  have hown : s.vm.findClass RX1 = some m.cls := findClass_of_methodNamed Bd.named
  have hlocks := Bd.notSynchronized
  have hl := lv_entry ([.int a0]) (n := 1) (Nat.le_of_ble_eq_true rfl)
  rw [lg_entry_eq]
  generalize (lg_sl ([.int a0]) ++ List.replicate (1 - (lg_sl ([.int a0])).length) Slot.unset).toArray = ls at hl ⊢
  have hl : lv_has ls 1 [(0, .int a0)] := hl
  unfold f_X1_dayOfWeek at hf
  refine lv_iload_n hx hb dX1_dayOfWeek_0 rfl (lv_at hl 0 rfl) ?_
  refine lv_iconst (v := 4) hx hb dX1_dayOfWeek_1 (by decide) ?_
  refine lv_iadd hx hb dX1_dayOfWeek_2 ?_
  refine lv_bipush (v := 7) hx hb dX1_dayOfWeek_3 (by decide) ?_
  refine lv_irem hx hb dX1_dayOfWeek_5 (by decide) ?_
  exact W.iret hx hb hr (fun t ht _ => ⟨_, rfl, Option.some.inj hf, ht⟩) (fun q hq => absurd hq List.not_mem_nil) dX1_dayOfWeek_6
def f_X1_daysBetween (a0 : Int32) (a1 : Int32) : Option Int32 :=
  (f_X1_dayNumber a1).bind fun v1 : Int32 => (f_X1_dayNumber a0).bind fun v2 : Int32 => some (v1 - v2)
set_option maxHeartbeats 4000000 in
set_option maxRecDepth 100000 in
theorem m_X1_daysBetween (l : Launch) (D : va_G) (cI cJ cO : ClassId) (ah : Nat)  (a0 : Int32) (a1 : Int32) (r : Int32) (hf : f_X1_daysBetween a0 a1 = some r) : Met l yX1_daysBetween wsX1_daysBetween ({ frames := 1, cells := 0, slots := 0, locals := 24 }) (va_Pc [.int a0, .int a1] (pw D (ty3 cI cJ cO) (some ah) [eA cI ah])) (QSi r) 0 0 (fun _ => False) := by
  refine Met.ofW (cc := cX1_daysBetween) (maxL := 2) (ret := (some .int)) (by decide) rfl ?_
  intro p e s m args below meth c s₁ Bd hml hv
  obtain ⟨rfl, hZ, hP, hK⟩ := hv
  have hx := Bd.exec
  have hb := Bd.bytes
  have hr := Bd.returns
  have hts := atoms_spec (ws := wsX1_daysBetween) Bd.pre
  have hown : s.vm.findClass RX1 = some m.cls := findClass_of_methodNamed Bd.named
  have hlocks := Bd.notSynchronized
  have hl := lv_entry ([.int a0, .int a1]) (n := 2) (Nat.le_of_ble_eq_true rfl)
  rw [lg_entry_eq]
  generalize (lg_sl ([.int a0, .int a1]) ++ List.replicate (2 - (lg_sl ([.int a0, .int a1])).length) Slot.unset).toArray = ls at hl ⊢
  have hl : lv_has ls 2 [(0, .int a0), (1, .int a1)] := hl
  unfold f_X1_daysBetween at hf
  refine lv_iload_n hx hb dX1_daysBetween_0 rfl (lv_at hl 1 rfl) ?_
  obtain ⟨v1, hv1, hf⟩ := ob hf
  refine cSi (W.runS (As := [.int a1]) (rest := []) ⟨hx, hb, hml, hown, hts⟩ (m_X1_dayNumber l D cI cJ cO ah a1 v1 hv1) (va_cwS 1 hts gX1_daysBetween_X1_dayNumber rfl rfl rfl (by decide +kernel) ⟨Nat.le_of_ble_eq_true rfl, Nat.le_of_ble_eq_true rfl⟩) ⟨pw_blind, fun U hU hW => ⟨rfl, pw_at hZ va_S.rf hP hK hU hW (Or.inr rfl) [0] rfl⟩⟩ rfl rfl hl.1 rfl (lv_room (Nat.le_of_ble_eq_true rfl)) dX1_daysBetween_1 ⟨Nat.zero_le _, Nat.zero_le _⟩) ?_
  refine lv_iload_n hx hb dX1_daysBetween_4 rfl (lv_at hl 0 rfl) ?_
  obtain ⟨v2, hv2, hf⟩ := ob hf
  refine cSi (W.runS (As := [.int a0]) (rest := [.int v1]) ⟨hx, hb, hml, hown, hts⟩ (m_X1_dayNumber l D cI cJ cO ah a0 v2 hv2) (va_cwS 1 hts gX1_daysBetween_X1_dayNumber rfl rfl rfl (by decide +kernel) ⟨Nat.le_of_ble_eq_true rfl, Nat.le_of_ble_eq_true rfl⟩) ⟨pw_blind, fun U hU hW => ⟨rfl, pw_at hZ va_S.rf hP hK hU hW (Or.inr rfl) [0] rfl⟩⟩ rfl rfl hl.1 rfl (lv_room (Nat.le_of_ble_eq_true rfl)) dX1_daysBetween_5 ⟨Nat.zero_le _, Nat.zero_le _⟩) ?_
  refine lv_isub hx hb dX1_daysBetween_8 ?_
  exact W.iret hx hb hr (fun t ht _ => ⟨_, rfl, Option.some.inj hf, ht⟩) (fun q hq => absurd hq List.not_mem_nil) dX1_daysBetween_9
def f_X1_daysOf30 (a0 : Int32) (a1 : Int32) : Option Int32 :=
  (f_X1_dayOf a0).bind fun v1 : Int32 => bd (if 30 < v1 then 30 else v1 : Int32) fun x2 : Int32 => jn (fun (x4 : Int32) => (f_X1_yearOf a1).bind fun v5 : Int32 => (f_X1_yearOf a0).bind fun v6 : Int32 => (f_X1_monthOf a1).bind fun v7 : Int32 => (f_X1_monthOf a0).bind fun v8 : Int32 => some ((((360 * (v5 - v6)) + (30 * (v7 - v8))) + x4) - x2)) fun K3 => (if x2 = 30 then (f_X1_dayOf a1).bind fun v11 : Int32 => bd (if 30 < v11 then 30 else v11 : Int32) fun x12 : Int32 => K3 x12 else (f_X1_dayOf a1).bind fun v10 : Int32 => K3 v10)
set_option maxHeartbeats 4000000 in
set_option maxRecDepth 100000 in
theorem m_X1_daysOf30 (l : Launch) (D : va_G) (cI cJ cO : ClassId) (ah : Nat)  (a0 : Int32) (a1 : Int32) (r : Int32) (hf : f_X1_daysOf30 a0 a1 = some r) : Met l yX1_daysOf30 wsX1_daysOf30 ({ frames := 1, cells := 0, slots := 0, locals := 20 }) (va_Pc [.int a0, .int a1] (pw D (ty3 cI cJ cO) (some ah) [])) (QSi r) 0 0 (fun _ => False) := by
  refine Met.ofW (cc := cX1_daysOf30) (maxL := 4) (ret := (some .int)) (by decide) rfl ?_
  intro p e s m args below meth c s₁ Bd hml hv
  obtain ⟨rfl, hZ, hP, hK⟩ := hv
  have hx := Bd.exec
  have hb := Bd.bytes
  have hr := Bd.returns
  have hts := atoms_spec (ws := wsX1_daysOf30) Bd.pre
  have hown : s.vm.findClass RX1 = some m.cls := findClass_of_methodNamed Bd.named
  have hlocks := Bd.notSynchronized
  have hl := lv_entry ([.int a0, .int a1]) (n := 4) (Nat.le_of_ble_eq_true rfl)
  rw [lg_entry_eq]
  generalize (lg_sl ([.int a0, .int a1]) ++ List.replicate (4 - (lg_sl ([.int a0, .int a1])).length) Slot.unset).toArray = ls at hl ⊢
  have hl : lv_has ls 4 [(0, .int a0), (1, .int a1)] := hl
  unfold f_X1_daysOf30 at hf
  refine lv_iload_n hx hb dX1_daysOf30_0 rfl (lv_at hl 0 rfl) ?_
  obtain ⟨v1, hv1, hf⟩ := ob hf
  refine cSi (W.runS (As := [.int a0]) (rest := []) ⟨hx, hb, hml, hown, hts⟩ (m_X1_dayOf l D cI cJ cO ah a0 v1 hv1) (va_cwS 1 hts gX1_daysOf30_X1_dayOf rfl rfl rfl (by decide +kernel) ⟨Nat.le_of_ble_eq_true rfl, Nat.le_of_ble_eq_true rfl⟩) ⟨pw_blind, fun U hU hW => ⟨rfl, pw_at hZ va_S.rf hP hK hU hW (Or.inr rfl) [] rfl⟩⟩ rfl rfl hl.1 rfl (lv_room (Nat.le_of_ble_eq_true rfl)) dX1_daysOf30_1 ⟨Nat.zero_le _, Nat.zero_le _⟩) ?_
  refine lv_bipush (v := 30) hx hb dX1_daysOf30_4 (by decide) ?_
  refine va_mmin hx hb (hml.trans hl.1.symm) hown (hts (.methodLink RX1 34 Lib.Math.min.name) (by decide +kernel)) (hts (.static Lib.Math.min.name) (by decide +kernel)) (hts (.initialized "java/lang/Math") (by decide +kernel)) (hts (.code Lib.Math.min.name Lib.Math.min.code 2 (some .int)) (by decide +kernel)) (Nat.le_of_ble_eq_true rfl) (Nat.le_of_ble_eq_true rfl) (Nat.zero_le _) (Nat.zero_le _) dX1_daysOf30_6 ?_
  refine lv_topi (fun x2 ex2 => ?_)
  have hf := bd_s hf ex2
  refine lv_istore_n (lv' := [(2, .int x2), (0, .int a0), (1, .int a1)]) hx hb dX1_daysOf30_9 rfl hl (by decide) rfl (fun ls hl => ?_)
  refine lv_iload_n hx hb dX1_daysOf30_10 rfl (lv_at hl 0 rfl) ?_
  refine lv_bipush (v := 30) hx hb dX1_daysOf30_11 (by decide) ?_
  obtain ⟨K3, hK3, hf⟩ := jn_s hf
  have JK3 : ∀ (x4 : Int32) (ls : Array Slot), lv_has ls 4 [(0, .int a0), (1, .int a1), (2, .int x2)] → K3 x4 = some r → W p l e (headSpec wsX1_daysOf30 ({ frames := 1, cells := 0, slots := 0, locals := 20 })).room s m ([.int a0, .int a1] : List Value).toArray below meth c s.heap [] 0 0 (MQ below (QSi r) ([.int a0, .int a1] : List Value).toArray s 0 0 (fun _ => False)) (F0 m 32 ls [.int x4]) := by
    intro x4 ls hl hf
    rw [hK3] at hf
    refine lv_istore_n (lv' := [(3, .int x4), (0, .int a0), (1, .int a1), (2, .int x2)]) hx hb dX1_daysOf30_32 rfl hl (by decide) rfl (fun ls hl => ?_)
    refine lv_sipush (v := 360) hx hb dX1_daysOf30_33 (by decide) ?_
    refine lv_iload_n hx hb dX1_daysOf30_36 rfl (lv_at hl 2 rfl) ?_
    obtain ⟨v5, hv5, hf⟩ := ob hf
    refine cSi (W.runS (As := [.int a1]) (rest := [.int 360]) ⟨hx, hb, hml, hown, hts⟩ (m_X1_yearOf l D cI cJ cO ah a1 v5 hv5) (va_cwS 1 hts gX1_daysOf30_X1_yearOf rfl rfl rfl (by decide +kernel) ⟨Nat.le_of_ble_eq_true rfl, Nat.le_of_ble_eq_true rfl⟩) ⟨pw_blind, fun U hU hW => ⟨rfl, pw_at hZ va_S.rf hP hK hU hW (Or.inr rfl) [] rfl⟩⟩ rfl rfl hl.1 rfl (lv_room (Nat.le_of_ble_eq_true rfl)) dX1_daysOf30_37 ⟨Nat.zero_le _, Nat.zero_le _⟩) ?_
    refine lv_iload_n hx hb dX1_daysOf30_40 rfl (lv_at hl 1 rfl) ?_
    obtain ⟨v6, hv6, hf⟩ := ob hf
    refine cSi (W.runS (As := [.int a0]) (rest := [.int v5, .int 360]) ⟨hx, hb, hml, hown, hts⟩ (m_X1_yearOf l D cI cJ cO ah a0 v6 hv6) (va_cwS 1 hts gX1_daysOf30_X1_yearOf rfl rfl rfl (by decide +kernel) ⟨Nat.le_of_ble_eq_true rfl, Nat.le_of_ble_eq_true rfl⟩) ⟨pw_blind, fun U hU hW => ⟨rfl, pw_at hZ va_S.rf hP hK hU hW (Or.inr rfl) [] rfl⟩⟩ rfl rfl hl.1 rfl (lv_room (Nat.le_of_ble_eq_true rfl)) dX1_daysOf30_41 ⟨Nat.zero_le _, Nat.zero_le _⟩) ?_
    refine lv_isub hx hb dX1_daysOf30_44 ?_
    refine lv_imul hx hb dX1_daysOf30_45 ?_
    refine lv_bipush (v := 30) hx hb dX1_daysOf30_46 (by decide) ?_
    refine lv_iload_n hx hb dX1_daysOf30_48 rfl (lv_at hl 2 rfl) ?_
    obtain ⟨v7, hv7, hf⟩ := ob hf
    refine cSi (W.runS (As := [.int a1]) (rest := [.int 30, .int (360 * (v5 - v6))]) ⟨hx, hb, hml, hown, hts⟩ (m_X1_monthOf l D cI cJ cO ah a1 v7 hv7) (va_cwS 1 hts gX1_daysOf30_X1_monthOf rfl rfl rfl (by decide +kernel) ⟨Nat.le_of_ble_eq_true rfl, Nat.le_of_ble_eq_true rfl⟩) ⟨pw_blind, fun U hU hW => ⟨rfl, pw_at hZ va_S.rf hP hK hU hW (Or.inr rfl) [] rfl⟩⟩ rfl rfl hl.1 rfl (lv_room (Nat.le_of_ble_eq_true rfl)) dX1_daysOf30_49 ⟨Nat.zero_le _, Nat.zero_le _⟩) ?_
    refine lv_iload_n hx hb dX1_daysOf30_52 rfl (lv_at hl 1 rfl) ?_
    obtain ⟨v8, hv8, hf⟩ := ob hf
    refine cSi (W.runS (As := [.int a0]) (rest := [.int v7, .int 30, .int (360 * (v5 - v6))]) ⟨hx, hb, hml, hown, hts⟩ (m_X1_monthOf l D cI cJ cO ah a0 v8 hv8) (va_cwS 1 hts gX1_daysOf30_X1_monthOf rfl rfl rfl (by decide +kernel) ⟨Nat.le_of_ble_eq_true rfl, Nat.le_of_ble_eq_true rfl⟩) ⟨pw_blind, fun U hU hW => ⟨rfl, pw_at hZ va_S.rf hP hK hU hW (Or.inr rfl) [] rfl⟩⟩ rfl rfl hl.1 rfl (lv_room (Nat.le_of_ble_eq_true rfl)) dX1_daysOf30_53 ⟨Nat.zero_le _, Nat.zero_le _⟩) ?_
    refine lv_isub hx hb dX1_daysOf30_56 ?_
    refine lv_imul hx hb dX1_daysOf30_57 ?_
    refine lv_iadd hx hb dX1_daysOf30_58 ?_
    refine lv_iload_n hx hb dX1_daysOf30_59 rfl (lv_at hl 0 rfl) ?_
    refine lv_iadd hx hb dX1_daysOf30_60 ?_
    refine lv_iload_n hx hb dX1_daysOf30_61 rfl (lv_at hl 3 rfl) ?_
    refine lv_isub hx hb dX1_daysOf30_62 ?_
    exact W.iret hx hb hr (fun t ht _ => ⟨_, rfl, Option.some.inj hf, ht⟩) (fun q hq => absurd hq List.not_mem_nil) dX1_daysOf30_63
  refine lv_icmp_ne (tgt := 28) hx hb dX1_daysOf30_13 (by decide) (fun c9 => ?_) (fun c9 => ?_)
  · have hf := ie hf c9
    refine lv_iload_n hx hb dX1_daysOf30_28 rfl (lv_at hl 2 rfl) ?_
    obtain ⟨v10, hv10, hf⟩ := ob hf
    refine cSi (W.runS (As := [.int a1]) (rest := []) ⟨hx, hb, hml, hown, hts⟩ (m_X1_dayOf l D cI cJ cO ah a1 v10 hv10) (va_cwS 1 hts gX1_daysOf30_X1_dayOf rfl rfl rfl (by decide +kernel) ⟨Nat.le_of_ble_eq_true rfl, Nat.le_of_ble_eq_true rfl⟩) ⟨pw_blind, fun U hU hW => ⟨rfl, pw_at hZ va_S.rf hP hK hU hW (Or.inr rfl) [] rfl⟩⟩ rfl rfl hl.1 rfl (lv_room (Nat.le_of_ble_eq_true rfl)) dX1_daysOf30_29 ⟨Nat.zero_le _, Nat.zero_le _⟩) ?_
    exact JK3 v10 ls (lv_sub hl [1, 2, 0] rfl) hf
  · have hf := it hf c9
    refine lv_iload_n hx hb dX1_daysOf30_16 rfl (lv_at hl 2 rfl) ?_
    obtain ⟨v11, hv11, hf⟩ := ob hf
    refine cSi (W.runS (As := [.int a1]) (rest := []) ⟨hx, hb, hml, hown, hts⟩ (m_X1_dayOf l D cI cJ cO ah a1 v11 hv11) (va_cwS 1 hts gX1_daysOf30_X1_dayOf rfl rfl rfl (by decide +kernel) ⟨Nat.le_of_ble_eq_true rfl, Nat.le_of_ble_eq_true rfl⟩) ⟨pw_blind, fun U hU hW => ⟨rfl, pw_at hZ va_S.rf hP hK hU hW (Or.inr rfl) [] rfl⟩⟩ rfl rfl hl.1 rfl (lv_room (Nat.le_of_ble_eq_true rfl)) dX1_daysOf30_17 ⟨Nat.zero_le _, Nat.zero_le _⟩) ?_
    refine lv_bipush (v := 30) hx hb dX1_daysOf30_20 (by decide) ?_
    refine va_mmin hx hb (hml.trans hl.1.symm) hown (hts (.methodLink RX1 34 Lib.Math.min.name) (by decide +kernel)) (hts (.static Lib.Math.min.name) (by decide +kernel)) (hts (.initialized "java/lang/Math") (by decide +kernel)) (hts (.code Lib.Math.min.name Lib.Math.min.code 2 (some .int)) (by decide +kernel)) (Nat.le_of_ble_eq_true rfl) (Nat.le_of_ble_eq_true rfl) (Nat.zero_le _) (Nat.zero_le _) dX1_daysOf30_22 ?_
    refine lv_topi (fun x12 ex12 => ?_)
    have hf := bd_s hf ex12
    refine lv_goto (tgt := 32) hx hb dX1_daysOf30_25 (by decide) ?_
    exact JK3 x12 ls (lv_sub hl [1, 2, 0] rfl) hf
def f_X1_monthsBack (a0 : Int32) (a1 : Int32) : Option Int32 :=
  (f_X1_yearOf a0).bind fun v1 : Int32 => (f_X1_monthOf a0).bind fun v2 : Int32 => bd ((((12 * v1) + v2) - 1) - a1 : Int32) fun x3 : Int32 => bd (x3 / 12 : Int32) fun x4 : Int32 => bd ((x3 - x3 / 12 * 12) + 1 : Int32) fun x5 : Int32 => (f_X1_monthLength x4 x5).bind fun v6 : Int32 => (f_X1_dayOf a0).bind fun v7 : Int32 => (f_X1_yearOf a0).bind fun v8 : Int32 => (f_X1_monthOf a0).bind fun v9 : Int32 => (f_X1_monthLength v8 v9).bind fun v10 : Int32 => jn (fun (x12 : Int32) => jn (fun (x14 : Int32) => some (((10000 * x4) + (100 * x5)) + x14)) fun K13 => (if x12 = 0 then (f_X1_dayOf a0).bind fun v16 : Int32 => bd (if v6 < v16 then v6 else v16 : Int32) fun x17 : Int32 => K13 x17 else K13 v6)) fun K11 => (if v7 = v10 then K11 1 else K11 0)
set_option maxHeartbeats 4000000 in
set_option maxRecDepth 100000 in
theorem m_X1_monthsBack (l : Launch) (D : va_G) (cI cJ cO : ClassId) (ah : Nat)  (a0 : Int32) (a1 : Int32) (r : Int32) (hf : f_X1_monthsBack a0 a1 = some r) : Met l yX1_monthsBack wsX1_monthsBack ({ frames := 1, cells := 0, slots := 0, locals := 21 }) (va_Pc [.int a0, .int a1] (pw D (ty3 cI cJ cO) (some ah) [])) (QSi r) 0 0 (fun _ => False) := by
  refine Met.ofW (cc := cX1_monthsBack) (maxL := 8) (ret := (some .int)) (by decide) rfl ?_
  intro p e s m args below meth c s₁ Bd hml hv
  obtain ⟨rfl, hZ, hP, hK⟩ := hv
  have hx := Bd.exec
  have hb := Bd.bytes
  have hr := Bd.returns
  have hts := atoms_spec (ws := wsX1_monthsBack) Bd.pre
  have hown : s.vm.findClass RX1 = some m.cls := findClass_of_methodNamed Bd.named
  have hlocks := Bd.notSynchronized
  have hl := lv_entry ([.int a0, .int a1]) (n := 8) (Nat.le_of_ble_eq_true rfl)
  rw [lg_entry_eq]
  generalize (lg_sl ([.int a0, .int a1]) ++ List.replicate (8 - (lg_sl ([.int a0, .int a1])).length) Slot.unset).toArray = ls at hl ⊢
  have hl : lv_has ls 8 [(0, .int a0), (1, .int a1)] := hl
  unfold f_X1_monthsBack at hf
  refine lv_bipush (v := 12) hx hb dX1_monthsBack_0 (by decide) ?_
  refine lv_iload_n hx hb dX1_monthsBack_2 rfl (lv_at hl 0 rfl) ?_
  obtain ⟨v1, hv1, hf⟩ := ob hf
  refine cSi (W.runS (As := [.int a0]) (rest := [.int 12]) ⟨hx, hb, hml, hown, hts⟩ (m_X1_yearOf l D cI cJ cO ah a0 v1 hv1) (va_cwS 1 hts gX1_monthsBack_X1_yearOf rfl rfl rfl (by decide +kernel) ⟨Nat.le_of_ble_eq_true rfl, Nat.le_of_ble_eq_true rfl⟩) ⟨pw_blind, fun U hU hW => ⟨rfl, pw_at hZ va_S.rf hP hK hU hW (Or.inr rfl) [] rfl⟩⟩ rfl rfl hl.1 rfl (lv_room (Nat.le_of_ble_eq_true rfl)) dX1_monthsBack_3 ⟨Nat.zero_le _, Nat.zero_le _⟩) ?_
  refine lv_imul hx hb dX1_monthsBack_6 ?_
  refine lv_iload_n hx hb dX1_monthsBack_7 rfl (lv_at hl 0 rfl) ?_
  obtain ⟨v2, hv2, hf⟩ := ob hf
  refine cSi (W.runS (As := [.int a0]) (rest := [.int (12 * v1)]) ⟨hx, hb, hml, hown, hts⟩ (m_X1_monthOf l D cI cJ cO ah a0 v2 hv2) (va_cwS 1 hts gX1_monthsBack_X1_monthOf rfl rfl rfl (by decide +kernel) ⟨Nat.le_of_ble_eq_true rfl, Nat.le_of_ble_eq_true rfl⟩) ⟨pw_blind, fun U hU hW => ⟨rfl, pw_at hZ va_S.rf hP hK hU hW (Or.inr rfl) [] rfl⟩⟩ rfl rfl hl.1 rfl (lv_room (Nat.le_of_ble_eq_true rfl)) dX1_monthsBack_8 ⟨Nat.zero_le _, Nat.zero_le _⟩) ?_
  refine lv_iadd hx hb dX1_monthsBack_11 ?_
  refine lv_iconst (v := 1) hx hb dX1_monthsBack_12 (by decide) ?_
  refine lv_isub hx hb dX1_monthsBack_13 ?_
  refine lv_iload_n hx hb dX1_monthsBack_14 rfl (lv_at hl 1 rfl) ?_
  refine lv_isub hx hb dX1_monthsBack_15 ?_
  refine lv_topi (fun x3 ex3 => ?_)
  have hf := bd_s hf ex3
  refine lv_istore_n (lv' := [(2, .int x3), (0, .int a0), (1, .int a1)]) hx hb dX1_monthsBack_16 rfl hl (by decide) rfl (fun ls hl => ?_)
  refine lv_iload_n hx hb dX1_monthsBack_17 rfl (lv_at hl 0 rfl) ?_
  refine lv_bipush (v := 12) hx hb dX1_monthsBack_18 (by decide) ?_
  refine lv_idiv hx hb dX1_monthsBack_20 (by decide) ?_
  refine lv_topi (fun x4 ex4 => ?_)
  have hf := bd_s hf ex4
  refine lv_istore_n (lv' := [(3, .int x4), (2, .int x3), (0, .int a0), (1, .int a1)]) hx hb dX1_monthsBack_21 rfl hl (by decide) rfl (fun ls hl => ?_)
  refine lv_iload_n hx hb dX1_monthsBack_22 rfl (lv_at hl 1 rfl) ?_
  refine lv_bipush (v := 12) hx hb dX1_monthsBack_23 (by decide) ?_
  refine lv_irem hx hb dX1_monthsBack_25 (by decide) ?_
  refine lv_iconst (v := 1) hx hb dX1_monthsBack_26 (by decide) ?_
  refine lv_iadd hx hb dX1_monthsBack_27 ?_
  refine lv_topi (fun x5 ex5 => ?_)
  have hf := bd_s hf ex5
  refine lv_istore (lv' := [(4, .int x5), (3, .int x4), (2, .int x3), (0, .int a0), (1, .int a1)]) hx hb dX1_monthsBack_28 hl (by decide) rfl (fun ls hl => ?_)
  refine lv_iload_n hx hb dX1_monthsBack_30 rfl (lv_at hl 1 rfl) ?_
  refine lv_iload hx hb dX1_monthsBack_31 (lv_at hl 0 rfl) ?_
  obtain ⟨v6, hv6, hf⟩ := ob hf
  refine cSi (W.runS (As := [.int x4, .int x5]) (rest := []) ⟨hx, hb, hml, hown, hts⟩ (m_X1_monthLength l D cI cJ cO ah x4 x5 v6 hv6) (va_cwS 2 hts gX1_monthsBack_X1_monthLength rfl rfl rfl (by decide +kernel) ⟨Nat.le_of_ble_eq_true rfl, Nat.le_of_ble_eq_true rfl⟩) ⟨pw_blind, fun U hU hW => ⟨rfl, pw_at hZ va_S.rf hP hK hU hW (Or.inr rfl) [] rfl⟩⟩ rfl rfl hl.1 rfl (lv_room (Nat.le_of_ble_eq_true rfl)) dX1_monthsBack_33 ⟨Nat.zero_le _, Nat.zero_le _⟩) ?_
  refine lv_istore (lv' := [(5, .int v6), (4, .int x5), (3, .int x4), (2, .int x3), (0, .int a0), (1, .int a1)]) hx hb dX1_monthsBack_36 hl (by decide) rfl (fun ls hl => ?_)
  refine lv_iload_n hx hb dX1_monthsBack_38 rfl (lv_at hl 4 rfl) ?_
  obtain ⟨v7, hv7, hf⟩ := ob hf
  refine cSi (W.runS (As := [.int a0]) (rest := []) ⟨hx, hb, hml, hown, hts⟩ (m_X1_dayOf l D cI cJ cO ah a0 v7 hv7) (va_cwS 1 hts gX1_monthsBack_X1_dayOf rfl rfl rfl (by decide +kernel) ⟨Nat.le_of_ble_eq_true rfl, Nat.le_of_ble_eq_true rfl⟩) ⟨pw_blind, fun U hU hW => ⟨rfl, pw_at hZ va_S.rf hP hK hU hW (Or.inr rfl) [] rfl⟩⟩ rfl rfl hl.1 rfl (lv_room (Nat.le_of_ble_eq_true rfl)) dX1_monthsBack_39 ⟨Nat.zero_le _, Nat.zero_le _⟩) ?_
  refine lv_iload_n hx hb dX1_monthsBack_42 rfl (lv_at hl 4 rfl) ?_
  obtain ⟨v8, hv8, hf⟩ := ob hf
  refine cSi (W.runS (As := [.int a0]) (rest := [.int v7]) ⟨hx, hb, hml, hown, hts⟩ (m_X1_yearOf l D cI cJ cO ah a0 v8 hv8) (va_cwS 1 hts gX1_monthsBack_X1_yearOf rfl rfl rfl (by decide +kernel) ⟨Nat.le_of_ble_eq_true rfl, Nat.le_of_ble_eq_true rfl⟩) ⟨pw_blind, fun U hU hW => ⟨rfl, pw_at hZ va_S.rf hP hK hU hW (Or.inr rfl) [] rfl⟩⟩ rfl rfl hl.1 rfl (lv_room (Nat.le_of_ble_eq_true rfl)) dX1_monthsBack_43 ⟨Nat.zero_le _, Nat.zero_le _⟩) ?_
  refine lv_iload_n hx hb dX1_monthsBack_46 rfl (lv_at hl 4 rfl) ?_
  obtain ⟨v9, hv9, hf⟩ := ob hf
  refine cSi (W.runS (As := [.int a0]) (rest := [.int v8, .int v7]) ⟨hx, hb, hml, hown, hts⟩ (m_X1_monthOf l D cI cJ cO ah a0 v9 hv9) (va_cwS 1 hts gX1_monthsBack_X1_monthOf rfl rfl rfl (by decide +kernel) ⟨Nat.le_of_ble_eq_true rfl, Nat.le_of_ble_eq_true rfl⟩) ⟨pw_blind, fun U hU hW => ⟨rfl, pw_at hZ va_S.rf hP hK hU hW (Or.inr rfl) [] rfl⟩⟩ rfl rfl hl.1 rfl (lv_room (Nat.le_of_ble_eq_true rfl)) dX1_monthsBack_47 ⟨Nat.zero_le _, Nat.zero_le _⟩) ?_
  obtain ⟨v10, hv10, hf⟩ := ob hf
  refine cSi (W.runS (As := [.int v8, .int v9]) (rest := [.int v7]) ⟨hx, hb, hml, hown, hts⟩ (m_X1_monthLength l D cI cJ cO ah v8 v9 v10 hv10) (va_cwS 2 hts gX1_monthsBack_X1_monthLength rfl rfl rfl (by decide +kernel) ⟨Nat.le_of_ble_eq_true rfl, Nat.le_of_ble_eq_true rfl⟩) ⟨pw_blind, fun U hU hW => ⟨rfl, pw_at hZ va_S.rf hP hK hU hW (Or.inr rfl) [] rfl⟩⟩ rfl rfl hl.1 rfl (lv_room (Nat.le_of_ble_eq_true rfl)) dX1_monthsBack_50 ⟨Nat.zero_le _, Nat.zero_le _⟩) ?_
  obtain ⟨K11, hK11, hf⟩ := jn_s hf
  have JK11 : ∀ (x12 : Int32) (ls : Array Slot), lv_has ls 8 [(0, .int a0), (3, .int x4), (4, .int x5), (5, .int v6)] → K11 x12 = some r → W p l e (headSpec wsX1_monthsBack ({ frames := 1, cells := 0, slots := 0, locals := 21 })).room s m ([.int a0, .int a1] : List Value).toArray below meth c s.heap [] 0 0 (MQ below (QSi r) ([.int a0, .int a1] : List Value).toArray s 0 0 (fun _ => False)) (F0 m 61 ls [.int x12]) := by
    intro x12 ls hl hf
    rw [hK11] at hf
    refine lv_istore (lv' := [(6, .int x12), (0, .int a0), (3, .int x4), (4, .int x5), (5, .int v6)]) hx hb dX1_monthsBack_61 hl (by decide) rfl (fun ls hl => ?_)
    refine lv_iload hx hb dX1_monthsBack_63 (lv_at hl 0 rfl) ?_
    obtain ⟨K13, hK13, hf⟩ := jn_s hf
    have JK13 : ∀ (x14 : Int32) (ls : Array Slot), lv_has ls 8 [(3, .int x4), (4, .int x5)] → K13 x14 = some r → W p l e (headSpec wsX1_monthsBack ({ frames := 1, cells := 0, slots := 0, locals := 21 })).room s m ([.int a0, .int a1] : List Value).toArray below meth c s.heap [] 0 0 (MQ below (QSi r) ([.int a0, .int a1] : List Value).toArray s 0 0 (fun _ => False)) (F0 m 82 ls [.int x14]) := by
      intro x14 ls hl hf
      rw [hK13] at hf
      refine lv_istore (lv' := [(7, .int x14), (3, .int x4), (4, .int x5)]) hx hb dX1_monthsBack_82 hl (by decide) rfl (fun ls hl => ?_)
      refine lv_sipush (v := 10000) hx hb dX1_monthsBack_84 (by decide) ?_
      refine lv_iload_n hx hb dX1_monthsBack_87 rfl (lv_at hl 1 rfl) ?_
      refine lv_imul hx hb dX1_monthsBack_88 ?_
      refine lv_bipush (v := 100) hx hb dX1_monthsBack_89 (by decide) ?_
      refine lv_iload hx hb dX1_monthsBack_91 (lv_at hl 2 rfl) ?_
      refine lv_imul hx hb dX1_monthsBack_93 ?_
      refine lv_iadd hx hb dX1_monthsBack_94 ?_
      refine lv_iload hx hb dX1_monthsBack_95 (lv_at hl 0 rfl) ?_
      refine lv_iadd hx hb dX1_monthsBack_97 ?_
      exact W.iret hx hb hr (fun t ht _ => ⟨_, rfl, Option.some.inj hf, ht⟩) (fun q hq => absurd hq List.not_mem_nil) dX1_monthsBack_98
    refine lv_if_eq (tgt := 73) hx hb dX1_monthsBack_65 (by decide) (fun c15 => ?_) (fun c15 => ?_)
    · have hf := it hf c15
      refine lv_iload_n hx hb dX1_monthsBack_73 rfl (lv_at hl 1 rfl) ?_
      obtain ⟨v16, hv16, hf⟩ := ob hf
      refine cSi (W.runS (As := [.int a0]) (rest := []) ⟨hx, hb, hml, hown, hts⟩ (m_X1_dayOf l D cI cJ cO ah a0 v16 hv16) (va_cwS 1 hts gX1_monthsBack_X1_dayOf rfl rfl rfl (by decide +kernel) ⟨Nat.le_of_ble_eq_true rfl, Nat.le_of_ble_eq_true rfl⟩) ⟨pw_blind, fun U hU hW => ⟨rfl, pw_at hZ va_S.rf hP hK hU hW (Or.inr rfl) [] rfl⟩⟩ rfl rfl hl.1 rfl (lv_room (Nat.le_of_ble_eq_true rfl)) dX1_monthsBack_74 ⟨Nat.zero_le _, Nat.zero_le _⟩) ?_
      refine lv_iload hx hb dX1_monthsBack_77 (lv_at hl 4 rfl) ?_
      refine va_mmin hx hb (hml.trans hl.1.symm) hown (hts (.methodLink RX1 34 Lib.Math.min.name) (by decide +kernel)) (hts (.static Lib.Math.min.name) (by decide +kernel)) (hts (.initialized "java/lang/Math") (by decide +kernel)) (hts (.code Lib.Math.min.name Lib.Math.min.code 2 (some .int)) (by decide +kernel)) (Nat.le_of_ble_eq_true rfl) (Nat.le_of_ble_eq_true rfl) (Nat.zero_le _) (Nat.zero_le _) dX1_monthsBack_79 ?_
      refine lv_topi (fun x17 ex17 => ?_)
      have hf := bd_s hf ex17
      exact JK13 x17 ls (lv_sub hl [2, 3] rfl) hf
    · have hf := ie hf c15
      refine lv_iload hx hb dX1_monthsBack_68 (lv_at hl 4 rfl) ?_
      refine lv_goto (tgt := 82) hx hb dX1_monthsBack_70 (by decide) ?_
      exact JK13 v6 ls (lv_sub hl [2, 3] rfl) hf
  refine lv_icmp_ne (tgt := 60) hx hb dX1_monthsBack_53 (by decide) (fun c18 => ?_) (fun c18 => ?_)
  · have hf := ie hf c18
    refine lv_iconst (v := 0) hx hb dX1_monthsBack_60 (by decide) ?_
    exact JK11 0 ls (lv_sub hl [4, 2, 1, 0] rfl) hf
  · have hf := it hf c18
    refine lv_iconst (v := 1) hx hb dX1_monthsBack_56 (by decide) ?_
    refine lv_goto (tgt := 61) hx hb dX1_monthsBack_57 (by decide) ?_
    exact JK11 1 ls (lv_sub hl [4, 2, 1, 0] rfl) hf
end
