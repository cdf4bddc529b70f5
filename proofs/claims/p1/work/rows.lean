section
-- ===== PART A: goes FIRST, ahead of the names: the tables' words, and 'selects' of the private methods out of them =====
/-- a private method of a class that the tables say can be made, by its rows of tables_1 -/
def lw_okq (q : MethodName × Nat) : Prop := (q.1.cls ≠ "java/lang/invoke/MethodHandle" ∧ q.1.cls ≠ "java/lang/invoke/VarHandle") ∧ Cond.instantiable q.1.cls q.2 ∈ tables_1 ∧ Cond.privateMethod q.1 ∈ tables_1 ∧ Cond.instanceMethod q.1 ∈ tables_1
theorem lw_p0 : lw_okq (⟨"LeaseLedger", "putOnTape", "(I)V"⟩, 13) := ⟨⟨by decide +kernel, by decide +kernel⟩, List.mem_of_getElem? (i := 30) (by decide +kernel), List.mem_of_getElem? (i := 375) (by decide +kernel), List.mem_of_getElem? (i := 376) (by decide +kernel)⟩
theorem lw_p1 : lw_okq (⟨"java/lang/Throwable", "fillInStackTrace", "(I)Ljava/lang/Throwable;"⟩, 6) := ⟨⟨by decide +kernel, by decide +kernel⟩, List.mem_of_getElem? (i := 542) (by decide +kernel), List.mem_of_getElem? (i := 540) (by decide +kernel), List.mem_of_getElem? (i := 541) (by decide +kernel)⟩
theorem lw_p2 : lw_okq (⟨"LeaseLedger", "forgetPast", "()V"⟩, 13) := ⟨⟨by decide +kernel, by decide +kernel⟩, List.mem_of_getElem? (i := 30) (by decide +kernel), List.mem_of_getElem? (i := 921) (by decide +kernel), List.mem_of_getElem? (i := 922) (by decide +kernel)⟩
theorem lw_p3 : lw_okq (⟨"LeaseLedger", "remember", "()V"⟩, 13) := ⟨⟨by decide +kernel, by decide +kernel⟩, List.mem_of_getElem? (i := 30) (by decide +kernel), List.mem_of_getElem? (i := 938) (by decide +kernel), List.mem_of_getElem? (i := 939) (by decide +kernel)⟩
theorem lw_p4 : lw_okq (⟨"LeaseLedger", "leaseAt", "(I)LLeaseLedger$Lease;"⟩, 13) := ⟨⟨by decide +kernel, by decide +kernel⟩, List.mem_of_getElem? (i := 30) (by decide +kernel), List.mem_of_getElem? (i := 1049) (by decide +kernel), List.mem_of_getElem? (i := 1050) (by decide +kernel)⟩
theorem lw_p5 : lw_okq (⟨"LeaseLedger", "runningAt", "(I)LLeaseLedger$Lease;"⟩, 13) := ⟨⟨by decide +kernel, by decide +kernel⟩, List.mem_of_getElem? (i := 30) (by decide +kernel), List.mem_of_getElem? (i := 1097) (by decide +kernel), List.mem_of_getElem? (i := 1098) (by decide +kernel)⟩
theorem lw_p6 : lw_okq (⟨"LeaseLedger", "bookIn", "(I)LLeaseLedger$Book;"⟩, 13) := ⟨⟨by decide +kernel, by decide +kernel⟩, List.mem_of_getElem? (i := 30) (by decide +kernel), List.mem_of_getElem? (i := 1198) (by decide +kernel), List.mem_of_getElem? (i := 1199) (by decide +kernel)⟩
theorem lw_p7 : lw_okq (⟨"LeaseLedger", "coming", "(I)I"⟩, 13) := ⟨⟨by decide +kernel, by decide +kernel⟩, List.mem_of_getElem? (i := 30) (by decide +kernel), List.mem_of_getElem? (i := 1202) (by decide +kernel), List.mem_of_getElem? (i := 1203) (by decide +kernel)⟩
theorem lw_p8 : lw_okq (⟨"LeaseLedgerModel", "freshText", "()V"⟩, 37) := ⟨⟨by decide +kernel, by decide +kernel⟩, List.mem_of_getElem? (i := 1411) (by decide +kernel), List.mem_of_getElem? (i := 1417) (by decide +kernel), List.mem_of_getElem? (i := 1418) (by decide +kernel)⟩
theorem lw_p9 : lw_okq (⟨"LeaseLedgerModel", "reads", "(II)V"⟩, 37) := ⟨⟨by decide +kernel, by decide +kernel⟩, List.mem_of_getElem? (i := 1411) (by decide +kernel), List.mem_of_getElem? (i := 1421) (by decide +kernel), List.mem_of_getElem? (i := 1422) (by decide +kernel)⟩
theorem lw_p10 : lw_okq (⟨"LeaseLedgerModel", "takeText", "()V"⟩, 37) := ⟨⟨by decide +kernel, by decide +kernel⟩, List.mem_of_getElem? (i := 1411) (by decide +kernel), List.mem_of_getElem? (i := 1425) (by decide +kernel), List.mem_of_getElem? (i := 1426) (by decide +kernel)⟩
theorem lw_p11 : lw_okq (⟨"LeaseLedgerModel", "reading", "(I)I"⟩, 37) := ⟨⟨by decide +kernel, by decide +kernel⟩, List.mem_of_getElem? (i := 1411) (by decide +kernel), List.mem_of_getElem? (i := 1429) (by decide +kernel), List.mem_of_getElem? (i := 1430) (by decide +kernel)⟩
theorem lw_p12 : lw_okq (⟨"LeaseLedgerModel", "begins", "()V"⟩, 37) := ⟨⟨by decide +kernel, by decide +kernel⟩, List.mem_of_getElem? (i := 1411) (by decide +kernel), List.mem_of_getElem? (i := 1433) (by decide +kernel), List.mem_of_getElem? (i := 1434) (by decide +kernel)⟩
theorem lw_p13 : lw_okq (⟨"LeaseLedgerModel", "leases", "()I"⟩, 37) := ⟨⟨by decide +kernel, by decide +kernel⟩, List.mem_of_getElem? (i := 1411) (by decide +kernel), List.mem_of_getElem? (i := 1438) (by decide +kernel), List.mem_of_getElem? (i := 1439) (by decide +kernel)⟩
theorem lw_p14 : lw_okq (⟨"LeaseLedgerModel", "rateFor", "(IIJ)I"⟩, 37) := ⟨⟨by decide +kernel, by decide +kernel⟩, List.mem_of_getElem? (i := 1411) (by decide +kernel), List.mem_of_getElem? (i := 1442) (by decide +kernel), List.mem_of_getElem? (i := 1443) (by decide +kernel)⟩
theorem lw_p15 : lw_okq (⟨"LeaseLedgerModel", "worthBy", "(IIJJ)J"⟩, 37) := ⟨⟨by decide +kernel, by decide +kernel⟩, List.mem_of_getElem? (i := 1411) (by decide +kernel), List.mem_of_getElem? (i := 1447) (by decide +kernel), List.mem_of_getElem? (i := 1448) (by decide +kernel)⟩
def lw_privs_1 : List (MethodName × Nat) := [(⟨"LeaseLedger", "putOnTape", "(I)V"⟩, 13), (⟨"java/lang/Throwable", "fillInStackTrace", "(I)Ljava/lang/Throwable;"⟩, 6), (⟨"LeaseLedger", "forgetPast", "()V"⟩, 13), (⟨"LeaseLedger", "remember", "()V"⟩, 13), (⟨"LeaseLedger", "leaseAt", "(I)LLeaseLedger$Lease;"⟩, 13), (⟨"LeaseLedger", "runningAt", "(I)LLeaseLedger$Lease;"⟩, 13), (⟨"LeaseLedger", "bookIn", "(I)LLeaseLedger$Book;"⟩, 13), (⟨"LeaseLedger", "coming", "(I)I"⟩, 13), (⟨"LeaseLedgerModel", "freshText", "()V"⟩, 37), (⟨"LeaseLedgerModel", "reads", "(II)V"⟩, 37), (⟨"LeaseLedgerModel", "takeText", "()V"⟩, 37), (⟨"LeaseLedgerModel", "reading", "(I)I"⟩, 37), (⟨"LeaseLedgerModel", "begins", "()V"⟩, 37), (⟨"LeaseLedgerModel", "leases", "()I"⟩, 37), (⟨"LeaseLedgerModel", "rateFor", "(IIJ)I"⟩, 37), (⟨"LeaseLedgerModel", "worthBy", "(IIJJ)J"⟩, 37)]
theorem lw_r1 : ∀ q ∈ lw_privs_1, lw_okq q := List.forall_mem_cons.mpr ⟨lw_p0, List.forall_mem_cons.mpr ⟨lw_p1, List.forall_mem_cons.mpr ⟨lw_p2, List.forall_mem_cons.mpr ⟨lw_p3, List.forall_mem_cons.mpr ⟨lw_p4, List.forall_mem_cons.mpr ⟨lw_p5, List.forall_mem_cons.mpr ⟨lw_p6, List.forall_mem_cons.mpr ⟨lw_p7, List.forall_mem_cons.mpr ⟨lw_p8, List.forall_mem_cons.mpr ⟨lw_p9, List.forall_mem_cons.mpr ⟨lw_p10, List.forall_mem_cons.mpr ⟨lw_p11, List.forall_mem_cons.mpr ⟨lw_p12, List.forall_mem_cons.mpr ⟨lw_p13, List.forall_mem_cons.mpr ⟨lw_p14, List.forall_mem_cons.mpr ⟨lw_p15, fun _ h => absurd h List.not_mem_nil⟩⟩⟩⟩⟩⟩⟩⟩⟩⟩⟩⟩⟩⟩⟩⟩
theorem lw_p16 : lw_okq (⟨"LeaseLedgerModel", "isEarly", "(I)Z"⟩, 37) := ⟨⟨by decide +kernel, by decide +kernel⟩, List.mem_of_getElem? (i := 1411) (by decide +kernel), List.mem_of_getElem? (i := 1451) (by decide +kernel), List.mem_of_getElem? (i := 1452) (by decide +kernel)⟩
theorem lw_p17 : lw_okq (⟨"LeaseLedgerModel", "readText", "(I)V"⟩, 37) := ⟨⟨by decide +kernel, by decide +kernel⟩, List.mem_of_getElem? (i := 1411) (by decide +kernel), List.mem_of_getElem? (i := 1586) (by decide +kernel), List.mem_of_getElem? (i := 1587) (by decide +kernel)⟩
theorem lw_p18 : lw_okq (⟨"LeaseLedgerModel", "token", "()V"⟩, 37) := ⟨⟨by decide +kernel, by decide +kernel⟩, List.mem_of_getElem? (i := 1411) (by decide +kernel), List.mem_of_getElem? (i := 1590) (by decide +kernel), List.mem_of_getElem? (i := 1591) (by decide +kernel)⟩
theorem lw_p19 : lw_okq (⟨"LeaseLedgerModel", "here", "()I"⟩, 37) := ⟨⟨by decide +kernel, by decide +kernel⟩, List.mem_of_getElem? (i := 1411) (by decide +kernel), List.mem_of_getElem? (i := 1594) (by decide +kernel), List.mem_of_getElem? (i := 1595) (by decide +kernel)⟩
theorem lw_p20 : lw_okq (⟨"LeaseLedgerModel", "wordHere", "()I"⟩, 37) := ⟨⟨by decide +kernel, by decide +kernel⟩, List.mem_of_getElem? (i := 1411) (by decide +kernel), List.mem_of_getElem? (i := 1601) (by decide +kernel), List.mem_of_getElem? (i := 1602) (by decide +kernel)⟩
theorem lw_p21 : lw_okq (⟨"LeaseLedgerModel", "nameHere", "()V"⟩, 37) := ⟨⟨by decide +kernel, by decide +kernel⟩, List.mem_of_getElem? (i := 1411) (by decide +kernel), List.mem_of_getElem? (i := 1631) (by decide +kernel), List.mem_of_getElem? (i := 1632) (by decide +kernel)⟩
theorem lw_p22 : lw_okq (⟨"LeaseLedgerModel", "readLine", "()V"⟩, 37) := ⟨⟨by decide +kernel, by decide +kernel⟩, List.mem_of_getElem? (i := 1411) (by decide +kernel), List.mem_of_getElem? (i := 1639) (by decide +kernel), List.mem_of_getElem? (i := 1640) (by decide +kernel)⟩
theorem lw_p23 : lw_okq (⟨"LeaseLedgerModel", "wrong", "(I)V"⟩, 37) := ⟨⟨by decide +kernel, by decide +kernel⟩, List.mem_of_getElem? (i := 1411) (by decide +kernel), List.mem_of_getElem? (i := 1643) (by decide +kernel), List.mem_of_getElem? (i := 1644) (by decide +kernel)⟩
theorem lw_p24 : lw_okq (⟨"LeaseLedgerModel", "readLease", "()V"⟩, 37) := ⟨⟨by decide +kernel, by decide +kernel⟩, List.mem_of_getElem? (i := 1411) (by decide +kernel), List.mem_of_getElem? (i := 1647) (by decide +kernel), List.mem_of_getElem? (i := 1648) (by decide +kernel)⟩
theorem lw_p25 : lw_okq (⟨"LeaseLedgerModel", "goOn", "()V"⟩, 37) := ⟨⟨by decide +kernel, by decide +kernel⟩, List.mem_of_getElem? (i := 1411) (by decide +kernel), List.mem_of_getElem? (i := 1651) (by decide +kernel), List.mem_of_getElem? (i := 1652) (by decide +kernel)⟩
theorem lw_p26 : lw_okq (⟨"LeaseLedgerModel", "namedAt", "(III)I"⟩, 37) := ⟨⟨by decide +kernel, by decide +kernel⟩, List.mem_of_getElem? (i := 1411) (by decide +kernel), List.mem_of_getElem? (i := 1655) (by decide +kernel), List.mem_of_getElem? (i := 1656) (by decide +kernel)⟩
theorem lw_p27 : lw_okq (⟨"LeaseLedgerModel", "numeral", "(II)I"⟩, 37) := ⟨⟨by decide +kernel, by decide +kernel⟩, List.mem_of_getElem? (i := 1411) (by decide +kernel), List.mem_of_getElem? (i := 1659) (by decide +kernel), List.mem_of_getElem? (i := 1660) (by decide +kernel)⟩
theorem lw_p28 : lw_okq (⟨"LeaseLedgerModel", "readPay", "()V"⟩, 37) := ⟨⟨by decide +kernel, by decide +kernel⟩, List.mem_of_getElem? (i := 1411) (by decide +kernel), List.mem_of_getElem? (i := 1663) (by decide +kernel), List.mem_of_getElem? (i := 1664) (by decide +kernel)⟩
theorem lw_p29 : lw_okq (⟨"LeaseLedgerModel", "atHand", "()I"⟩, 37) := ⟨⟨by decide +kernel, by decide +kernel⟩, List.mem_of_getElem? (i := 1411) (by decide +kernel), List.mem_of_getElem? (i := 1667) (by decide +kernel), List.mem_of_getElem? (i := 1668) (by decide +kernel)⟩
theorem lw_p30 : lw_okq (⟨"LeaseLedgerModel", "readMark", "(I)V"⟩, 37) := ⟨⟨by decide +kernel, by decide +kernel⟩, List.mem_of_getElem? (i := 1411) (by decide +kernel), List.mem_of_getElem? (i := 1672) (by decide +kernel), List.mem_of_getElem? (i := 1673) (by decide +kernel)⟩
theorem lw_p31 : lw_okq (⟨"LeaseLedgerModel", "readFair", "()V"⟩, 37) := ⟨⟨by decide +kernel, by decide +kernel⟩, List.mem_of_getElem? (i := 1411) (by decide +kernel), List.mem_of_getElem? (i := 1676) (by decide +kernel), List.mem_of_getElem? (i := 1677) (by decide +kernel)⟩
def lw_privs_2 : List (MethodName × Nat) := [(⟨"LeaseLedgerModel", "isEarly", "(I)Z"⟩, 37), (⟨"LeaseLedgerModel", "readText", "(I)V"⟩, 37), (⟨"LeaseLedgerModel", "token", "()V"⟩, 37), (⟨"LeaseLedgerModel", "here", "()I"⟩, 37), (⟨"LeaseLedgerModel", "wordHere", "()I"⟩, 37), (⟨"LeaseLedgerModel", "nameHere", "()V"⟩, 37), (⟨"LeaseLedgerModel", "readLine", "()V"⟩, 37), (⟨"LeaseLedgerModel", "wrong", "(I)V"⟩, 37), (⟨"LeaseLedgerModel", "readLease", "()V"⟩, 37), (⟨"LeaseLedgerModel", "goOn", "()V"⟩, 37), (⟨"LeaseLedgerModel", "namedAt", "(III)I"⟩, 37), (⟨"LeaseLedgerModel", "numeral", "(II)I"⟩, 37), (⟨"LeaseLedgerModel", "readPay", "()V"⟩, 37), (⟨"LeaseLedgerModel", "atHand", "()I"⟩, 37), (⟨"LeaseLedgerModel", "readMark", "(I)V"⟩, 37), (⟨"LeaseLedgerModel", "readFair", "()V"⟩, 37)]
theorem lw_r2 : ∀ q ∈ lw_privs_2, lw_okq q := List.forall_mem_cons.mpr ⟨lw_p16, List.forall_mem_cons.mpr ⟨lw_p17, List.forall_mem_cons.mpr ⟨lw_p18, List.forall_mem_cons.mpr ⟨lw_p19, List.forall_mem_cons.mpr ⟨lw_p20, List.forall_mem_cons.mpr ⟨lw_p21, List.forall_mem_cons.mpr ⟨lw_p22, List.forall_mem_cons.mpr ⟨lw_p23, List.forall_mem_cons.mpr ⟨lw_p24, List.forall_mem_cons.mpr ⟨lw_p25, List.forall_mem_cons.mpr ⟨lw_p26, List.forall_mem_cons.mpr ⟨lw_p27, List.forall_mem_cons.mpr ⟨lw_p28, List.forall_mem_cons.mpr ⟨lw_p29, List.forall_mem_cons.mpr ⟨lw_p30, List.forall_mem_cons.mpr ⟨lw_p31, fun _ h => absurd h List.not_mem_nil⟩⟩⟩⟩⟩⟩⟩⟩⟩⟩⟩⟩⟩⟩⟩⟩
theorem lw_p32 : lw_okq (⟨"LeaseLedgerModel", "readFee", "()V"⟩, 37) := ⟨⟨by decide +kernel, by decide +kernel⟩, List.mem_of_getElem? (i := 1411) (by decide +kernel), List.mem_of_getElem? (i := 1680) (by decide +kernel), List.mem_of_getElem? (i := 1681) (by decide +kernel)⟩
theorem lw_p33 : lw_okq (⟨"LeaseLedgerModel", "readChange", "()V"⟩, 37) := ⟨⟨by decide +kernel, by decide +kernel⟩, List.mem_of_getElem? (i := 1411) (by decide +kernel), List.mem_of_getElem? (i := 1684) (by decide +kernel), List.mem_of_getElem? (i := 1685) (by decide +kernel)⟩
theorem lw_p34 : lw_okq (⟨"LeaseLedgerModel", "readOption", "()V"⟩, 37) := ⟨⟨by decide +kernel, by decide +kernel⟩, List.mem_of_getElem? (i := 1411) (by decide +kernel), List.mem_of_getElem? (i := 1688) (by decide +kernel), List.mem_of_getElem? (i := 1689) (by decide +kernel)⟩
theorem lw_p35 : lw_okq (⟨"LeaseLedgerModel", "readSeed", "()V"⟩, 37) := ⟨⟨by decide +kernel, by decide +kernel⟩, List.mem_of_getElem? (i := 1411) (by decide +kernel), List.mem_of_getElem? (i := 1692) (by decide +kernel), List.mem_of_getElem? (i := 1693) (by decide +kernel)⟩
theorem lw_p36 : lw_okq (⟨"LeaseLedgerModel", "remembers", "()V"⟩, 37) := ⟨⟨by decide +kernel, by decide +kernel⟩, List.mem_of_getElem? (i := 1411) (by decide +kernel), List.mem_of_getElem? (i := 1709) (by decide +kernel), List.mem_of_getElem? (i := 1710) (by decide +kernel)⟩
theorem lw_p37 : lw_okq (⟨"LeaseLedgerModel", "periodGoes", "()V"⟩, 37) := ⟨⟨by decide +kernel, by decide +kernel⟩, List.mem_of_getElem? (i := 1411) (by decide +kernel), List.mem_of_getElem? (i := 1716) (by decide +kernel), List.mem_of_getElem? (i := 1717) (by decide +kernel)⟩
theorem lw_p38 : lw_okq (⟨"LeaseLedgerModel", "starts1", "(I)V"⟩, 37) := ⟨⟨by decide +kernel, by decide +kernel⟩, List.mem_of_getElem? (i := 1411) (by decide +kernel), List.mem_of_getElem? (i := 1720) (by decide +kernel), List.mem_of_getElem? (i := 1721) (by decide +kernel)⟩
theorem lw_p39 : lw_okq (⟨"LeaseLedgerModel", "indexNow", "()J"⟩, 37) := ⟨⟨by decide +kernel, by decide +kernel⟩, List.mem_of_getElem? (i := 1411) (by decide +kernel), List.mem_of_getElem? (i := 1724) (by decide +kernel), List.mem_of_getElem? (i := 1725) (by decide +kernel)⟩
theorem lw_p40 : lw_okq (⟨"LeaseLedgerModel", "entry", "(IIJJJJJJ)V"⟩, 37) := ⟨⟨by decide +kernel, by decide +kernel⟩, List.mem_of_getElem? (i := 1411) (by decide +kernel), List.mem_of_getElem? (i := 1728) (by decide +kernel), List.mem_of_getElem? (i := 1729) (by decide +kernel)⟩
theorem lw_p41 : lw_okq (⟨"LeaseLedgerModel", "isOn", "(I)Z"⟩, 37) := ⟨⟨by decide +kernel, by decide +kernel⟩, List.mem_of_getElem? (i := 1411) (by decide +kernel), List.mem_of_getElem? (i := 1733) (by decide +kernel), List.mem_of_getElem? (i := 1734) (by decide +kernel)⟩
theorem lw_p42 : lw_okq (⟨"LeaseLedgerModel", "isTied", "(I)Z"⟩, 37) := ⟨⟨by decide +kernel, by decide +kernel⟩, List.mem_of_getElem? (i := 1411) (by decide +kernel), List.mem_of_getElem? (i := 1737) (by decide +kernel), List.mem_of_getElem? (i := 1738) (by decide +kernel)⟩
theorem lw_p43 : lw_okq (⟨"LeaseLedgerModel", "indexes", "(IJ)V"⟩, 37) := ⟨⟨by decide +kernel, by decide +kernel⟩, List.mem_of_getElem? (i := 1411) (by decide +kernel), List.mem_of_getElem? (i := 1741) (by decide +kernel), List.mem_of_getElem? (i := 1742) (by decide +kernel)⟩
theorem lw_p44 : lw_okq (⟨"LeaseLedgerModel", "remeasures", "(I)J"⟩, 37) := ⟨⟨by decide +kernel, by decide +kernel⟩, List.mem_of_getElem? (i := 1411) (by decide +kernel), List.mem_of_getElem? (i := 1745) (by decide +kernel), List.mem_of_getElem? (i := 1746) (by decide +kernel)⟩
theorem lw_p45 : lw_okq (⟨"LeaseLedgerModel", "pays", "(I)V"⟩, 37) := ⟨⟨by decide +kernel, by decide +kernel⟩, List.mem_of_getElem? (i := 1411) (by decide +kernel), List.mem_of_getElem? (i := 1749) (by decide +kernel), List.mem_of_getElem? (i := 1750) (by decide +kernel)⟩
theorem lw_p46 : lw_okq (⟨"LeaseLedgerModel", "left", "(I)I"⟩, 37) := ⟨⟨by decide +kernel, by decide +kernel⟩, List.mem_of_getElem? (i := 1411) (by decide +kernel), List.mem_of_getElem? (i := 1753) (by decide +kernel), List.mem_of_getElem? (i := 1754) (by decide +kernel)⟩
theorem lw_p47 : lw_okq (⟨"LeaseLedgerModel", "isLease", "(I)Z"⟩, 37) := ⟨⟨by decide +kernel, by decide +kernel⟩, List.mem_of_getElem? (i := 1411) (by decide +kernel), List.mem_of_getElem? (i := 1761) (by decide +kernel), List.mem_of_getElem? (i := 1762) (by decide +kernel)⟩
def lw_privs_3 : List (MethodName × Nat) := [(⟨"LeaseLedgerModel", "readFee", "()V"⟩, 37), (⟨"LeaseLedgerModel", "readChange", "()V"⟩, 37), (⟨"LeaseLedgerModel", "readOption", "()V"⟩, 37), (⟨"LeaseLedgerModel", "readSeed", "()V"⟩, 37), (⟨"LeaseLedgerModel", "remembers", "()V"⟩, 37), (⟨"LeaseLedgerModel", "periodGoes", "()V"⟩, 37), (⟨"LeaseLedgerModel", "starts1", "(I)V"⟩, 37), (⟨"LeaseLedgerModel", "indexNow", "()J"⟩, 37), (⟨"LeaseLedgerModel", "entry", "(IIJJJJJJ)V"⟩, 37), (⟨"LeaseLedgerModel", "isOn", "(I)Z"⟩, 37), (⟨"LeaseLedgerModel", "isTied", "(I)Z"⟩, 37), (⟨"LeaseLedgerModel", "indexes", "(IJ)V"⟩, 37), (⟨"LeaseLedgerModel", "remeasures", "(I)J"⟩, 37), (⟨"LeaseLedgerModel", "pays", "(I)V"⟩, 37), (⟨"LeaseLedgerModel", "left", "(I)I"⟩, 37), (⟨"LeaseLedgerModel", "isLease", "(I)Z"⟩, 37)]
theorem lw_r3 : ∀ q ∈ lw_privs_3, lw_okq q := List.forall_mem_cons.mpr ⟨lw_p32, List.forall_mem_cons.mpr ⟨lw_p33, List.forall_mem_cons.mpr ⟨lw_p34, List.forall_mem_cons.mpr ⟨lw_p35, List.forall_mem_cons.mpr ⟨lw_p36, List.forall_mem_cons.mpr ⟨lw_p37, List.forall_mem_cons.mpr ⟨lw_p38, List.forall_mem_cons.mpr ⟨lw_p39, List.forall_mem_cons.mpr ⟨lw_p40, List.forall_mem_cons.mpr ⟨lw_p41, List.forall_mem_cons.mpr ⟨lw_p42, List.forall_mem_cons.mpr ⟨lw_p43, List.forall_mem_cons.mpr ⟨lw_p44, List.forall_mem_cons.mpr ⟨lw_p45, List.forall_mem_cons.mpr ⟨lw_p46, List.forall_mem_cons.mpr ⟨lw_p47, fun _ h => absurd h List.not_mem_nil⟩⟩⟩⟩⟩⟩⟩⟩⟩⟩⟩⟩⟩⟩⟩⟩
theorem lw_p48 : lw_okq (⟨"LeaseLedgerModel", "isOwn", "(II)Z"⟩, 37) := ⟨⟨by decide +kernel, by decide +kernel⟩, List.mem_of_getElem? (i := 1411) (by decide +kernel), List.mem_of_getElem? (i := 1773) (by decide +kernel), List.mem_of_getElem? (i := 1774) (by decide +kernel)⟩
theorem lw_p49 : lw_okq (⟨"LeaseLedgerModel", "isRunning", "(I)Z"⟩, 37) := ⟨⟨by decide +kernel, by decide +kernel⟩, List.mem_of_getElem? (i := 1411) (by decide +kernel), List.mem_of_getElem? (i := 1806) (by decide +kernel), List.mem_of_getElem? (i := 1807) (by decide +kernel)⟩
theorem lw_p50 : lw_okq (⟨"LeaseLedgerModel", "canBeLonger", "(II)Z"⟩, 37) := ⟨⟨by decide +kernel, by decide +kernel⟩, List.mem_of_getElem? (i := 1411) (by decide +kernel), List.mem_of_getElem? (i := 1814) (by decide +kernel), List.mem_of_getElem? (i := 1815) (by decide +kernel)⟩
theorem lw_p51 : lw_okq (⟨"LeaseLedgerModel", "adds", "(IIJJ)V"⟩, 37) := ⟨⟨by decide +kernel, by decide +kernel⟩, List.mem_of_getElem? (i := 1411) (by decide +kernel), List.mem_of_getElem? (i := 1819) (by decide +kernel), List.mem_of_getElem? (i := 1820) (by decide +kernel)⟩
theorem lw_p52 : lw_okq (⟨"LeaseLedgerModel", "canTake", "(I)Z"⟩, 37) := ⟨⟨by decide +kernel, by decide +kernel⟩, List.mem_of_getElem? (i := 1411) (by decide +kernel), List.mem_of_getElem? (i := 1827) (by decide +kernel), List.mem_of_getElem? (i := 1828) (by decide +kernel)⟩
theorem lw_p53 : lw_okq (⟨"LeaseLedgerModel", "takes", "(I)J"⟩, 37) := ⟨⟨by decide +kernel, by decide +kernel⟩, List.mem_of_getElem? (i := 1411) (by decide +kernel), List.mem_of_getElem? (i := 1831) (by decide +kernel), List.mem_of_getElem? (i := 1832) (by decide +kernel)⟩
theorem lw_p54 : lw_okq (⟨"LeaseLedgerModel", "gives", "(IIJJ)V"⟩, 37) := ⟨⟨by decide +kernel, by decide +kernel⟩, List.mem_of_getElem? (i := 1411) (by decide +kernel), List.mem_of_getElem? (i := 1839) (by decide +kernel), List.mem_of_getElem? (i := 1840) (by decide +kernel)⟩
theorem lw_p55 : lw_okq (⟨"LeaseLedgerModel", "becomes", "(J)V"⟩, 37) := ⟨⟨by decide +kernel, by decide +kernel⟩, List.mem_of_getElem? (i := 1411) (by decide +kernel), List.mem_of_getElem? (i := 1859) (by decide +kernel), List.mem_of_getElem? (i := 1860) (by decide +kernel)⟩
theorem lw_p56 : lw_okq (⟨"LeaseLedgerModel", "ahead", "(I)V"⟩, 37) := ⟨⟨by decide +kernel, by decide +kernel⟩, List.mem_of_getElem? (i := 1411) (by decide +kernel), List.mem_of_getElem? (i := 1870) (by decide +kernel), List.mem_of_getElem? (i := 1871) (by decide +kernel)⟩
theorem lw_p57 : lw_okq (⟨"LeaseLedgerModel", "back1", "()V"⟩, 37) := ⟨⟨by decide +kernel, by decide +kernel⟩, List.mem_of_getElem? (i := 1411) (by decide +kernel), List.mem_of_getElem? (i := 1874) (by decide +kernel), List.mem_of_getElem? (i := 1875) (by decide +kernel)⟩
theorem lw_p58 : lw_okq (⟨"LeaseLedgerModel", "owedAll", "()J"⟩, 37) := ⟨⟨by decide +kernel, by decide +kernel⟩, List.mem_of_getElem? (i := 1411) (by decide +kernel), List.mem_of_getElem? (i := 1882) (by decide +kernel), List.mem_of_getElem? (i := 1883) (by decide +kernel)⟩
theorem lw_p59 : lw_okq (⟨"LeaseLedgerModel", "paidAll", "()J"⟩, 37) := ⟨⟨by decide +kernel, by decide +kernel⟩, List.mem_of_getElem? (i := 1411) (by decide +kernel), List.mem_of_getElem? (i := 1906) (by decide +kernel), List.mem_of_getElem? (i := 1907) (by decide +kernel)⟩
theorem lw_p60 : lw_okq (⟨"LeaseLedgerModel", "takesAll", "(II)Z"⟩, 37) := ⟨⟨by decide +kernel, by decide +kernel⟩, List.mem_of_getElem? (i := 1411) (by decide +kernel), List.mem_of_getElem? (i := 1934) (by decide +kernel), List.mem_of_getElem? (i := 1935) (by decide +kernel)⟩
theorem lw_p61 : lw_okq (⟨"LeaseLedgerModel", "draw", "(I)I"⟩, 37) := ⟨⟨by decide +kernel, by decide +kernel⟩, List.mem_of_getElem? (i := 1411) (by decide +kernel), List.mem_of_getElem? (i := 1957) (by decide +kernel), List.mem_of_getElem? (i := 1958) (by decide +kernel)⟩
theorem lw_p62 : lw_okq (⟨"LeaseLedgerModel", "running", "()I"⟩, 37) := ⟨⟨by decide +kernel, by decide +kernel⟩, List.mem_of_getElem? (i := 1411) (by decide +kernel), List.mem_of_getElem? (i := 1985) (by decide +kernel), List.mem_of_getElem? (i := 1986) (by decide +kernel)⟩
def lw_privs_4 : List (MethodName × Nat) := [(⟨"LeaseLedgerModel", "isOwn", "(II)Z"⟩, 37), (⟨"LeaseLedgerModel", "isRunning", "(I)Z"⟩, 37), (⟨"LeaseLedgerModel", "canBeLonger", "(II)Z"⟩, 37), (⟨"LeaseLedgerModel", "adds", "(IIJJ)V"⟩, 37), (⟨"LeaseLedgerModel", "canTake", "(I)Z"⟩, 37), (⟨"LeaseLedgerModel", "takes", "(I)J"⟩, 37), (⟨"LeaseLedgerModel", "gives", "(IIJJ)V"⟩, 37), (⟨"LeaseLedgerModel", "becomes", "(J)V"⟩, 37), (⟨"LeaseLedgerModel", "ahead", "(I)V"⟩, 37), (⟨"LeaseLedgerModel", "back1", "()V"⟩, 37), (⟨"LeaseLedgerModel", "owedAll", "()J"⟩, 37), (⟨"LeaseLedgerModel", "paidAll", "()J"⟩, 37), (⟨"LeaseLedgerModel", "takesAll", "(II)Z"⟩, 37), (⟨"LeaseLedgerModel", "draw", "(I)I"⟩, 37), (⟨"LeaseLedgerModel", "running", "()I"⟩, 37)]
theorem lw_r4 : ∀ q ∈ lw_privs_4, lw_okq q := List.forall_mem_cons.mpr ⟨lw_p48, List.forall_mem_cons.mpr ⟨lw_p49, List.forall_mem_cons.mpr ⟨lw_p50, List.forall_mem_cons.mpr ⟨lw_p51, List.forall_mem_cons.mpr ⟨lw_p52, List.forall_mem_cons.mpr ⟨lw_p53, List.forall_mem_cons.mpr ⟨lw_p54, List.forall_mem_cons.mpr ⟨lw_p55, List.forall_mem_cons.mpr ⟨lw_p56, List.forall_mem_cons.mpr ⟨lw_p57, List.forall_mem_cons.mpr ⟨lw_p58, List.forall_mem_cons.mpr ⟨lw_p59, List.forall_mem_cons.mpr ⟨lw_p60, List.forall_mem_cons.mpr ⟨lw_p61, List.forall_mem_cons.mpr ⟨lw_p62, fun _ h => absurd h List.not_mem_nil⟩⟩⟩⟩⟩⟩⟩⟩⟩⟩⟩⟩⟩⟩⟩
def lw_privs : List (MethodName × Nat) := lw_privs_1 ++ (lw_privs_2 ++ (lw_privs_3 ++ (lw_privs_4)))
def lw_tbl : List Cond := k2_sels lw_privs ++ tables_1
theorem lw_privs_ok : ∀ q ∈ lw_privs, lw_okq q := by
  show ∀ q ∈ lw_privs_1 ++ (lw_privs_2 ++ (lw_privs_3 ++ (lw_privs_4))), lw_okq q
  exact List.forall_mem_append.mpr ⟨lw_r1, List.forall_mem_append.mpr ⟨lw_r2, List.forall_mem_append.mpr ⟨lw_r3, lw_r4⟩⟩⟩

def RX0 : String := "LeaseLedger$1"
def TX0 : u_T := fun k => match k with
  | _ => ("", "", "", false)
def tyX0 : Nat → FieldType := fun k => match k with
  | _ => .int
abbrev wsX00 : List Cond := u_ws RX0 TX0 0
theorem nmX0 : ∀ a, a < 0 → ∀ b, b < 0 → a ≠ b → (TX0 a).2.1 ≠ (TX0 b).2.1 := by decide +kernel
theorem tyX0_ok : ∀ k, k < 0 → parseFieldDescriptor (TX0 k).2.2.1 = some (tyX0 k) := by decide +kernel
def RX1 : String := "LeaseLedger$Amount"
def TX1 : u_T := fun k => match k with
  | 0 => ("LeaseLedger$Amount", "high", "J", false)
  | _ => ("LeaseLedger$Amount", "low", "J", false)
def tyX1 : Nat → FieldType := fun k => match k with
  | 0 => .long
  | _ => .long
abbrev wsX10 : List Cond := u_ws RX1 TX1 2
theorem nmX1 : ∀ a, a < 2 → ∀ b, b < 2 → a ≠ b → (TX1 a).2.1 ≠ (TX1 b).2.1 := by decide +kernel
theorem tyX1_ok : ∀ k, k < 2 → parseFieldDescriptor (TX1 k).2.2.1 = some (tyX1 k) := by decide +kernel
abbrev cX1_init : ByteArray := prog_3_method_1_code
def yX1_init : MethodName := ⟨RX1, "<init>", "()V"⟩
abbrev cX1_set : ByteArray := prog_3_method_2_code
def yX1_set : MethodName := ⟨RX1, "set", "(J)V"⟩
abbrev cX1_copyFrom : ByteArray := prog_3_method_3_code
def yX1_copyFrom : MethodName := ⟨RX1, "copyFrom", "(LLeaseLedger$Amount;)V"⟩
abbrev cX1_asLong : ByteArray := prog_3_method_4_code
def yX1_asLong : MethodName := ⟨RX1, "asLong", "()J"⟩
abbrev cX1_isZero : ByteArray := prog_3_method_5_code
def yX1_isZero : MethodName := ⟨RX1, "isZero", "()Z"⟩
abbrev cX1_isAtLeast : ByteArray := prog_3_method_6_code
def yX1_isAtLeast : MethodName := ⟨RX1, "isAtLeast", "(J)Z"⟩
abbrev cX1_isAbove : ByteArray := prog_3_method_7_code
def yX1_isAbove : MethodName := ⟨RX1, "isAbove", "(LLeaseLedger$Amount;)Z"⟩
abbrev cX1_isGreaterShare : ByteArray := prog_3_method_8_code
def yX1_isGreaterShare : MethodName := ⟨RX1, "isGreaterShare", "(ILLeaseLedger$Amount;I)Z"⟩
abbrev cX1_holdToZero : ByteArray := prog_3_method_9_code
def yX1_holdToZero : MethodName := ⟨RX1, "holdToZero", "()V"⟩
abbrev cX1_addLong : ByteArray := prog_3_method_10_code
def yX1_addLong : MethodName := ⟨RX1, "addLong", "(J)V"⟩
abbrev cX1_add : ByteArray := prog_3_method_11_code
def yX1_add : MethodName := ⟨RX1, "add", "(LLeaseLedger$Amount;)V"⟩
abbrev cX1_subtract : ByteArray := prog_3_method_12_code
def yX1_subtract : MethodName := ⟨RX1, "subtract", "(LLeaseLedger$Amount;)V"⟩
abbrev cX1_times : ByteArray := prog_3_method_13_code
def yX1_times : MethodName := ⟨RX1, "times", "(J)V"⟩
abbrev cX1_shareDown : ByteArray := prog_3_method_14_code
def yX1_shareDown : MethodName := ⟨RX1, "shareDown", "(JJ)V"⟩
abbrev cX1_shareRounded : ByteArray := prog_3_method_15_code
def yX1_shareRounded : MethodName := ⟨RX1, "shareRounded", "(JJ)V"⟩
abbrev cX1_share : ByteArray := prog_3_method_16_code
def yX1_share : MethodName := ⟨RX1, "share", "(JJJ)V"⟩
abbrev cX1_takeOut : ByteArray := prog_3_method_17_code
def yX1_takeOut : MethodName := ⟨RX1, "takeOut", "(LLeaseLedger$Amount;)J"⟩
def RX2 : String := "LeaseLedger$Book"
def TX2 : u_T := fun k => match k with
  | 0 => ("LeaseLedger$Book", "leases", "[LLeaseLedger$Lease;", true)
  | 1 => ("LeaseLedger$Book", "options", "[LLeaseLedger$Option;", true)
  | 2 => ("LeaseLedger$Book", "indexes", "[I", true)
  | 3 => ("LeaseLedger$Book", "toldPeriods", "[I", true)
  | 4 => ("LeaseLedger$Book", "journal", "LLeaseLedger$Journal;", true)
  | 5 => ("LeaseLedger$Book", "paid", "LLeaseLedger$Amount;", true)
  | 6 => ("LeaseLedger$Book", "held", "LLeaseLedger$Amount;", true)
  | 7 => ("LeaseLedger$Book", "then", "LLeaseLedger$Amount;", true)
  | 8 => ("LeaseLedger$Book", "leaseCount", "I", false)
  | 9 => ("LeaseLedger$Book", "optionCount", "I", false)
  | 10 => ("LeaseLedger$Book", "toldCount", "I", false)
  | 11 => ("LeaseLedger$Book", "period", "I", false)
  | _ => ("LeaseLedger$Book", "seed", "I", false)
def tyX2 : Nat → FieldType := fun k => match k with
  | 0 => .array (.object "LeaseLedger$Lease")
  | 1 => .array (.object "LeaseLedger$Option")
  | 2 => .array .int
  | 3 => .array .int
  | 4 => .object "LeaseLedger$Journal"
  | 5 => .object "LeaseLedger$Amount"
  | 6 => .object "LeaseLedger$Amount"
  | 7 => .object "LeaseLedger$Amount"
  | 8 => .int
  | 9 => .int
  | 10 => .int
  | 11 => .int
  | _ => .int
abbrev wsX20 : List Cond := u_ws RX2 TX2 13
theorem nmX2 : ∀ a, a < 13 → ∀ b, b < 13 → a ≠ b → (TX2 a).2.1 ≠ (TX2 b).2.1 := by decide +kernel
theorem tyX2_ok : ∀ k, k < 13 → parseFieldDescriptor (TX2 k).2.2.1 = some (tyX2 k) := by decide +kernel
abbrev cX2_init : ByteArray := prog_4_method_1_code
def yX2_init : MethodName := ⟨RX2, "<init>", "()V"⟩
abbrev cX2_clear : ByteArray := prog_4_method_2_code
def yX2_clear : MethodName := ⟨RX2, "clear", "()V"⟩
abbrev cX2_copyFrom : ByteArray := prog_4_method_3_code
def yX2_copyFrom : MethodName := ⟨RX2, "copyFrom", "(LLeaseLedger$Book;)V"⟩
abbrev cX2_addLease : ByteArray := prog_4_method_4_code
def yX2_addLease : MethodName := ⟨RX2, "addLease", "(IIII)V"⟩
abbrev cX2_addOption : ByteArray := prog_4_method_5_code
def yX2_addOption : MethodName := ⟨RX2, "addOption", "(III)V"⟩
abbrev cX2_addIndex : ByteArray := prog_4_method_6_code
def yX2_addIndex : MethodName := ⟨RX2, "addIndex", "(II)V"⟩
abbrev cX2_lastTold : ByteArray := prog_4_method_7_code
def yX2_lastTold : MethodName := ⟨RX2, "lastTold", "()I"⟩
abbrev cX2_leaseNamed : ByteArray := prog_4_method_8_code
def yX2_leaseNamed : MethodName := ⟨RX2, "leaseNamed", "(I)I"⟩
abbrev cX2_findRates : ByteArray := prog_4_method_9_code
def yX2_findRates : MethodName := ⟨RX2, "findRates", "(LLeaseLedger$Amount;)V"⟩
abbrev cX2_runningLeases : ByteArray := prog_4_method_10_code
def yX2_runningLeases : MethodName := ⟨RX2, "runningLeases", "()I"⟩
abbrev cX2_countAllOwed : ByteArray := prog_4_method_11_code
def yX2_countAllOwed : MethodName := ⟨RX2, "countAllOwed", "(LLeaseLedger$Amount;)V"⟩
abbrev cX2_indexNow : ByteArray := prog_4_method_12_code
def yX2_indexNow : MethodName := ⟨RX2, "indexNow", "()I"⟩
abbrev cX2_changeIndex : ByteArray := prog_4_method_13_code
def yX2_changeIndex : MethodName := ⟨RX2, "changeIndex", "(I)V"⟩
abbrev cX2_periodGoesBy : ByteArray := prog_4_method_14_code
def yX2_periodGoesBy : MethodName := ⟨RX2, "periodGoesBy", "()V"⟩
abbrev cX2_begin : ByteArray := prog_4_method_15_code
def yX2_begin : MethodName := ⟨RX2, "begin", "(ILLeaseLedger$Lease;)V"⟩
abbrev cX2_payAndWriteOff : ByteArray := prog_4_method_16_code
def yX2_payAndWriteOff : MethodName := ⟨RX2, "payAndWriteOff", "(ILLeaseLedger$Lease;)V"⟩
abbrev cX2_remeasure : ByteArray := prog_4_method_17_code
def yX2_remeasure : MethodName := ⟨RX2, "remeasure", "(ILLeaseLedger$Lease;)J"⟩
abbrev cX2_giveBack : ByteArray := prog_4_method_18_code
def yX2_giveBack : MethodName := ⟨RX2, "giveBack", "(ILLeaseLedger$Lease;JI)J"⟩
abbrev cX2_writeDown : ByteArray := prog_4_method_19_code
def yX2_writeDown : MethodName := ⟨RX2, "writeDown", "(ILLeaseLedger$Lease;J)V"⟩
abbrev cX2_canTake : ByteArray := prog_4_method_20_code
def yX2_canTake : MethodName := ⟨RX2, "canTake", "(I)Z"⟩
abbrev cX2_canTakeSet : ByteArray := prog_4_method_21_code
def yX2_canTakeSet : MethodName := ⟨RX2, "canTakeSet", "(II)Z"⟩
abbrev cX2_goOnBySet : ByteArray := prog_4_method_22_code
def yX2_goOnBySet : MethodName := ⟨RX2, "goOnBySet", "(LLeaseLedger$Lease;I)V"⟩
abbrev cX2_goOnByOption : ByteArray := prog_4_method_23_code
def yX2_goOnByOption : MethodName := ⟨RX2, "goOnByOption", "(LLeaseLedger$Lease;LLeaseLedger$Option;)V"⟩
abbrev cX2_yearByChance : ByteArray := prog_4_method_24_code
def yX2_yearByChance : MethodName := ⟨RX2, "yearByChance", "(J)J"⟩
def RX3 : String := "LeaseLedger$Journal"
def TX3 : u_T := fun k => match k with
  | 0 => ("LeaseLedger$Journal", "rows", "[J", true)
  | 1 => ("LeaseLedger$Journal", "accounts", "[J", true)
  | _ => ("LeaseLedger$Journal", "total", "I", false)
def tyX3 : Nat → FieldType := fun k => match k with
  | 0 => .array .long
  | 1 => .array .long
  | _ => .int
abbrev wsX30 : List Cond := u_ws RX3 TX3 3
theorem nmX3 : ∀ a, a < 3 → ∀ b, b < 3 → a ≠ b → (TX3 a).2.1 ≠ (TX3 b).2.1 := by decide +kernel
theorem tyX3_ok : ∀ k, k < 3 → parseFieldDescriptor (TX3 k).2.2.1 = some (tyX3 k) := by decide +kernel
abbrev cX3_init : ByteArray := prog_5_method_1_code
def yX3_init : MethodName := ⟨RX3, "<init>", "()V"⟩
abbrev cX3_clear : ByteArray := prog_5_method_2_code
def yX3_clear : MethodName := ⟨RX3, "clear", "()V"⟩
abbrev cX3_copyFrom : ByteArray := prog_5_method_3_code
def yX3_copyFrom : MethodName := ⟨RX3, "copyFrom", "(LLeaseLedger$Journal;)V"⟩
abbrev cX3_kept : ByteArray := prog_5_method_4_code
def yX3_kept : MethodName := ⟨RX3, "kept", "()I"⟩
abbrev cX3_open : ByteArray := prog_5_method_5_code
def yX3_open : MethodName := ⟨RX3, "open", "(III)V"⟩
abbrev cX3_put : ByteArray := prog_5_method_6_code
def yX3_put : MethodName := ⟨RX3, "put", "(IJ)V"⟩
abbrev cX3_told : ByteArray := prog_5_method_7_code
def yX3_told : MethodName := ⟨RX3, "told", "(II)J"⟩
def RX4 : String := "LeaseLedger$Kind"
def TX4 : u_T := fun k => match k with
  | _ => ("", "", "", false)
def tyX4 : Nat → FieldType := fun k => match k with
  | _ => .int
abbrev wsX40 : List Cond := u_ws RX4 TX4 0
theorem nmX4 : ∀ a, a < 0 → ∀ b, b < 0 → a ≠ b → (TX4 a).2.1 ≠ (TX4 b).2.1 := by decide +kernel
theorem tyX4_ok : ∀ k, k < 0 → parseFieldDescriptor (TX4 k).2.2.1 = some (tyX4 k) := by decide +kernel
def RX5 : String := "LeaseLedger$Lease"
def TX5 : u_T := fun k => match k with
  | 0 => ("LeaseLedger$Lease", "name", "I", false)
  | 1 => ("LeaseLedger$Lease", "start", "I", false)
  | 2 => ("LeaseLedger$Lease", "term", "I", false)
  | 3 => ("LeaseLedger$Lease", "rate", "I", false)
  | 4 => ("LeaseLedger$Lease", "fair", "I", false)
  | 5 => ("LeaseLedger$Lease", "fee", "I", false)
  | 6 => ("LeaseLedger$Lease", "base", "I", false)
  | 7 => ("LeaseLedger$Lease", "indexed", "I", false)
  | 8 => ("LeaseLedger$Lease", "gone", "I", false)
  | 9 => ("LeaseLedger$Lease", "stage", "I", false)
  | 10 => ("LeaseLedger$Lease", "found", "Z", false)
  | 11 => ("LeaseLedger$Lease", "early", "Z", false)
  | 12 => ("LeaseLedger$Lease", "tied", "Z", false)
  | 13 => ("LeaseLedger$Lease", "owed", "LLeaseLedger$Amount;", true)
  | 14 => ("LeaseLedger$Lease", "used", "LLeaseLedger$Amount;", true)
  | 15 => ("LeaseLedger$Lease", "due", "LLeaseLedger$Row;", true)
  | 16 => ("LeaseLedger$Lease", "setting", "LLeaseLedger$Row;", true)
  | _ => ("LeaseLedger$Lease", "moved", "[J", true)
def tyX5 : Nat → FieldType := fun k => match k with
  | 0 => .int
  | 1 => .int
  | 2 => .int
  | 3 => .int
  | 4 => .int
  | 5 => .int
  | 6 => .int
  | 7 => .int
  | 8 => .int
  | 9 => .int
  | 10 => .boolean
  | 11 => .boolean
  | 12 => .boolean
  | 13 => .object "LeaseLedger$Amount"
  | 14 => .object "LeaseLedger$Amount"
  | 15 => .object "LeaseLedger$Row"
  | 16 => .object "LeaseLedger$Row"
  | _ => .array .long
abbrev wsX50 : List Cond := u_ws RX5 TX5 18
theorem nmX5 : ∀ a, a < 18 → ∀ b, b < 18 → a ≠ b → (TX5 a).2.1 ≠ (TX5 b).2.1 := by decide +kernel
theorem tyX5_ok : ∀ k, k < 18 → parseFieldDescriptor (TX5 k).2.2.1 = some (tyX5 k) := by decide +kernel
abbrev cX5_init : ByteArray := prog_7_method_1_code
def yX5_init : MethodName := ⟨RX5, "<init>", "()V"⟩
abbrev cX5_tell : ByteArray := prog_7_method_2_code
def yX5_tell : MethodName := ⟨RX5, "tell", "(IIII)V"⟩
abbrev cX5_copyFrom : ByteArray := prog_7_method_3_code
def yX5_copyFrom : MethodName := ⟨RX5, "copyFrom", "(LLeaseLedger$Lease;)V"⟩
abbrev cX5_owns : ByteArray := prog_7_method_4_code
def yX5_owns : MethodName := ⟨RX5, "owns", "(I)Z"⟩
abbrev cX5_left : ByteArray := prog_7_method_5_code
def yX5_left : MethodName := ⟨RX5, "left", "()I"⟩
abbrev cX5_payMore : ByteArray := prog_7_method_6_code
def yX5_payMore : MethodName := ⟨RX5, "payMore", "(III)V"⟩
abbrev cX5_worthLeft : ByteArray := prog_7_method_7_code
def yX5_worthLeft : MethodName := ⟨RX5, "worthLeft", "(LLeaseLedger$Amount;)V"⟩
abbrev cX5_worthFrom : ByteArray := prog_7_method_8_code
def yX5_worthFrom : MethodName := ⟨RX5, "worthFrom", "(IILLeaseLedger$Amount;)V"⟩
abbrev cX5_greatestRate : ByteArray := prog_7_method_9_code
def yX5_greatestRate : MethodName := ⟨RX5, "greatestRate", "(IJLLeaseLedger$Amount;)I"⟩
abbrev cX5_leastLevel : ByteArray := prog_7_method_10_code
def yX5_leastLevel : MethodName := ⟨RX5, "leastLevel", "(JLLeaseLedger$Amount;)I"⟩
abbrev cX5_worthOfLevel : ByteArray := prog_7_method_11_code
def yX5_worthOfLevel : MethodName := ⟨RX5, "worthOfLevel", "(ILLeaseLedger$Amount;)V"⟩
abbrev cX5_followIndex : ByteArray := prog_7_method_12_code
def yX5_followIndex : MethodName := ⟨RX5, "followIndex", "(I)V"⟩
abbrev cX5_goOnAsLast : ByteArray := prog_7_method_13_code
def yX5_goOnAsLast : MethodName := ⟨RX5, "goOnAsLast", "(I)V"⟩
abbrev cX5_goOn : ByteArray := prog_7_method_14_code
def yX5_goOn : MethodName := ⟨RX5, "goOn", "(IJ)V"⟩
abbrev cX5_keepPart : ByteArray := prog_7_method_15_code
def yX5_keepPart : MethodName := ⟨RX5, "keepPart", "(J)V"⟩
abbrev cX5_movePayment : ByteArray := prog_7_method_16_code
def yX5_movePayment : MethodName := ⟨RX5, "movePayment", "(II)V"⟩
abbrev cX5_owedBehind : ByteArray := prog_7_method_17_code
def yX5_owedBehind : MethodName := ⟨RX5, "owedBehind", "(LLeaseLedger$Amount;LLeaseLedger$Amount;)V"⟩
def RX6 : String := "LeaseLedger$Option"
def TX6 : u_T := fun k => match k with
  | 0 => ("LeaseLedger$Option", "lease", "I", false)
  | 1 => ("LeaseLedger$Option", "more", "I", false)
  | 2 => ("LeaseLedger$Option", "each", "I", false)
  | _ => ("LeaseLedger$Option", "taken", "Z", false)
def tyX6 : Nat → FieldType := fun k => match k with
  | 0 => .int
  | 1 => .int
  | 2 => .int
  | _ => .boolean
abbrev wsX60 : List Cond := u_ws RX6 TX6 4
theorem nmX6 : ∀ a, a < 4 → ∀ b, b < 4 → a ≠ b → (TX6 a).2.1 ≠ (TX6 b).2.1 := by decide +kernel
theorem tyX6_ok : ∀ k, k < 4 → parseFieldDescriptor (TX6 k).2.2.1 = some (tyX6 k) := by decide +kernel
abbrev cX6_init : ByteArray := prog_8_method_1_code
def yX6_init : MethodName := ⟨RX6, "<init>", "()V"⟩
abbrev cX6_copyFrom : ByteArray := prog_8_method_2_code
def yX6_copyFrom : MethodName := ⟨RX6, "copyFrom", "(LLeaseLedger$Option;)V"⟩
def RX7 : String := "LeaseLedger$Reader"
def TX7 : u_T := fun k => match k with
  | 0 => ("LeaseLedger$Reader", "bytes", "[B", true)
  | 1 => ("LeaseLedger$Reader", "length", "I", false)
  | 2 => ("LeaseLedger$Reader", "book", "LLeaseLedger$Book;", false)
  | 3 => ("LeaseLedger$Reader", "toldOf", "[I", true)
  | 4 => ("LeaseLedger$Reader", "next", "I", false)
  | 5 => ("LeaseLedger$Reader", "start", "I", false)
  | 6 => ("LeaseLedger$Reader", "token", "I", false)
  | 7 => ("LeaseLedger$Reader", "value", "I", false)
  | 8 => ("LeaseLedger$Reader", "pays", "I", false)
  | 9 => ("LeaseLedger$Reader", "seedTold", "Z", false)
  | 10 => ("LeaseLedger$Reader", "lines", "I", false)
  | 11 => ("LeaseLedger$Reader", "fault", "I", false)
  | _ => ("LeaseLedger$Reader", "place", "I", false)
def tyX7 : Nat → FieldType := fun k => match k with
  | 0 => .array .byte
  | 1 => .int
  | 2 => .object "LeaseLedger$Book"
  | 3 => .array .int
  | 4 => .int
  | 5 => .int
  | 6 => .int
  | 7 => .int
  | 8 => .int
  | 9 => .boolean
  | 10 => .int
  | 11 => .int
  | _ => .int
abbrev wsX70 : List Cond := u_ws RX7 TX7 13
theorem nmX7 : ∀ a, a < 13 → ∀ b, b < 13 → a ≠ b → (TX7 a).2.1 ≠ (TX7 b).2.1 := by decide +kernel
theorem tyX7_ok : ∀ k, k < 13 → parseFieldDescriptor (TX7 k).2.2.1 = some (tyX7 k) := by decide +kernel
abbrev cX7_init : ByteArray := prog_9_method_1_code
def yX7_init : MethodName := ⟨RX7, "<init>", "([BLLeaseLedger$Book;)V"⟩
abbrev cX7_begin : ByteArray := prog_9_method_2_code
def yX7_begin : MethodName := ⟨RX7, "begin", "(ILLeaseLedger$Book;)V"⟩
abbrev cX7_read : ByteArray := prog_9_method_3_code
def yX7_read : MethodName := ⟨RX7, "read", "()V"⟩
abbrev cX7_readLine : ByteArray := prog_9_method_4_code
def yX7_readLine : MethodName := ⟨RX7, "readLine", "()V"⟩
abbrev cX7_readLease : ByteArray := prog_9_method_5_code
def yX7_readLease : MethodName := ⟨RX7, "readLease", "()V"⟩
abbrev cX7_readPay : ByteArray := prog_9_method_6_code
def yX7_readPay : MethodName := ⟨RX7, "readPay", "()V"⟩
abbrev cX7_readEarly : ByteArray := prog_9_method_7_code
def yX7_readEarly : MethodName := ⟨RX7, "readEarly", "()V"⟩
abbrev cX7_readFair : ByteArray := prog_9_method_8_code
def yX7_readFair : MethodName := ⟨RX7, "readFair", "()V"⟩
abbrev cX7_readFee : ByteArray := prog_9_method_9_code
def yX7_readFee : MethodName := ⟨RX7, "readFee", "()V"⟩
abbrev cX7_readTied : ByteArray := prog_9_method_10_code
def yX7_readTied : MethodName := ⟨RX7, "readTied", "()V"⟩
abbrev cX7_readIndex : ByteArray := prog_9_method_11_code
def yX7_readIndex : MethodName := ⟨RX7, "readIndex", "()V"⟩
abbrev cX7_readOption : ByteArray := prog_9_method_12_code
def yX7_readOption : MethodName := ⟨RX7, "readOption", "()V"⟩
abbrev cX7_readSeed : ByteArray := prog_9_method_13_code
def yX7_readSeed : MethodName := ⟨RX7, "readSeed", "()V"⟩
abbrev cX7_startLine : ByteArray := prog_9_method_14_code
def yX7_startLine : MethodName := ⟨RX7, "startLine", "(I)V"⟩
abbrev cX7_readStop : ByteArray := prog_9_method_15_code
def yX7_readStop : MethodName := ⟨RX7, "readStop", "()V"⟩
abbrev cX7_readNumber : ByteArray := prog_9_method_16_code
def yX7_readNumber : MethodName := ⟨RX7, "readNumber", "(II)I"⟩
abbrev cX7_readNewName : ByteArray := prog_9_method_17_code
def yX7_readNewName : MethodName := ⟨RX7, "readNewName", "()I"⟩
abbrev cX7_readToldName : ByteArray := prog_9_method_18_code
def yX7_readToldName : MethodName := ⟨RX7, "readToldName", "()I"⟩
abbrev cX7_readNameOnce : ByteArray := prog_9_method_19_code
def yX7_readNameOnce : MethodName := ⟨RX7, "readNameOnce", "(I)I"⟩
abbrev cX7_readName : ByteArray := prog_9_method_20_code
def yX7_readName : MethodName := ⟨RX7, "readName", "()I"⟩
abbrev cX7_fail : ByteArray := prog_9_method_21_code
def yX7_fail : MethodName := ⟨RX7, "fail", "(I)V"⟩
abbrev cX7_failAt : ByteArray := prog_9_method_22_code
def yX7_failAt : MethodName := ⟨RX7, "failAt", "(II)V"⟩
abbrev cX7_kindOf : ByteArray := prog_9_method_23_code
def yX7_kindOf : MethodName := ⟨RX7, "kindOf", "(I)LLeaseLedger$Kind;"⟩
abbrev cX7_advance : ByteArray := prog_9_method_24_code
def yX7_advance : MethodName := ⟨RX7, "advance", "()V"⟩
abbrev cX7_advanceWord : ByteArray := prog_9_method_25_code
def yX7_advanceWord : MethodName := ⟨RX7, "advanceWord", "()V"⟩
abbrev cX7_advanceNumber : ByteArray := prog_9_method_26_code
def yX7_advanceNumber : MethodName := ⟨RX7, "advanceNumber", "()V"⟩
abbrev cX7_tokenAt : ByteArray := prog_9_method_27_code
def yX7_tokenAt : MethodName := ⟨RX7, "tokenAt", "(I)I"⟩
def RX8 : String := "LeaseLedger$Row"
def TX8 : u_T := fun k => match k with
  | 0 => ("LeaseLedger$Row", "highs", "[J", true)
  | 1 => ("LeaseLedger$Row", "lows", "[J", true)
  | _ => ("LeaseLedger$Row", "held", "LLeaseLedger$Amount;", true)
def tyX8 : Nat → FieldType := fun k => match k with
  | 0 => .array .long
  | 1 => .array .long
  | _ => .object "LeaseLedger$Amount"
abbrev wsX80 : List Cond := u_ws RX8 TX8 3
theorem nmX8 : ∀ a, a < 3 → ∀ b, b < 3 → a ≠ b → (TX8 a).2.1 ≠ (TX8 b).2.1 := by decide +kernel
theorem tyX8_ok : ∀ k, k < 3 → parseFieldDescriptor (TX8 k).2.2.1 = some (tyX8 k) := by decide +kernel
abbrev cX8_init : ByteArray := prog_10_method_1_code
def yX8_init : MethodName := ⟨RX8, "<init>", "()V"⟩
abbrev cX8_copyFrom : ByteArray := prog_10_method_2_code
def yX8_copyFrom : MethodName := ⟨RX8, "copyFrom", "(LLeaseLedger$Row;)V"⟩
abbrev cX8_fill : ByteArray := prog_10_method_3_code
def yX8_fill : MethodName := ⟨RX8, "fill", "(IJ)V"⟩
abbrev cX8_copyTo : ByteArray := prog_10_method_4_code
def yX8_copyTo : MethodName := ⟨RX8, "copyTo", "(ILLeaseLedger$Amount;)V"⟩
abbrev cX8_addTo : ByteArray := prog_10_method_5_code
def yX8_addTo : MethodName := ⟨RX8, "addTo", "(ILLeaseLedger$Amount;)V"⟩
abbrev cX8_put : ByteArray := prog_10_method_6_code
def yX8_put : MethodName := ⟨RX8, "put", "(ILLeaseLedger$Amount;)V"⟩
abbrev cX8_setAt : ByteArray := prog_10_method_7_code
def yX8_setAt : MethodName := ⟨RX8, "setAt", "(IJ)V"⟩
abbrev cX8_addAt : ByteArray := prog_10_method_8_code
def yX8_addAt : MethodName := ⟨RX8, "addAt", "(IJ)V"⟩
abbrev cX8_repeat : ByteArray := prog_10_method_9_code
def yX8_repeat : MethodName := ⟨RX8, "repeat", "(I)V"⟩
abbrev cX8_move : ByteArray := prog_10_method_10_code
def yX8_move : MethodName := ⟨RX8, "move", "(II)V"⟩
abbrev cX8_shareDownOf : ByteArray := prog_10_method_11_code
def yX8_shareDownOf : MethodName := ⟨RX8, "shareDownOf", "(LLeaseLedger$Row;IIJJ)V"⟩
def RX9 : String := "LeaseLedger"
def TX9 : u_T := fun k => match k with
  | 0 => ("LeaseLedger", "tape", "[B", true)
  | 1 => ("LeaseLedger", "tapeSize", "I", false)
  | 2 => ("LeaseLedger", "book", "LLeaseLedger$Book;", false)
  | 3 => ("LeaseLedger", "spare", "LLeaseLedger$Book;", false)
  | 4 => ("LeaseLedger", "reader", "LLeaseLedger$Reader;", true)
  | 5 => ("LeaseLedger", "image", "LLeaseLedger$Book;", true)
  | 6 => ("LeaseLedger", "imageKept", "Z", false)
  | 7 => ("LeaseLedger", "past", "[LLeaseLedger$Book;", true)
  | 8 => ("LeaseLedger", "pastFirst", "I", false)
  | 9 => ("LeaseLedger", "pastCount", "I", false)
  | 10 => ("LeaseLedger", "first", "LLeaseLedger$Amount;", true)
  | 11 => ("LeaseLedger", "second", "LLeaseLedger$Amount;", true)
  | _ => ("LeaseLedger", "third", "LLeaseLedger$Amount;", true)
def tyX9 : Nat → FieldType := fun k => match k with
  | 0 => .array .byte
  | 1 => .int
  | 2 => .object "LeaseLedger$Book"
  | 3 => .object "LeaseLedger$Book"
  | 4 => .object "LeaseLedger$Reader"
  | 5 => .object "LeaseLedger$Book"
  | 6 => .boolean
  | 7 => .array (.object "LeaseLedger$Book")
  | 8 => .int
  | 9 => .int
  | 10 => .object "LeaseLedger$Amount"
  | 11 => .object "LeaseLedger$Amount"
  | _ => .object "LeaseLedger$Amount"
abbrev wsX90 : List Cond := u_ws RX9 TX9 13
theorem nmX9 : ∀ a, a < 13 → ∀ b, b < 13 → a ≠ b → (TX9 a).2.1 ≠ (TX9 b).2.1 := by decide +kernel
theorem tyX9_ok : ∀ k, k < 13 → parseFieldDescriptor (TX9 k).2.2.1 = some (tyX9 k) := by decide +kernel
abbrev cX9_init : ByteArray := prog_1_method_1_code
def yX9_init : MethodName := ⟨RX9, "<init>", "()V"⟩
abbrev cX9_feed : ByteArray := prog_1_method_2_code
def yX9_feed : MethodName := ⟨RX9, "feed", "(IIIII)I"⟩
abbrev cX9_text : ByteArray := prog_1_method_3_code
def yX9_text : MethodName := ⟨RX9, "text", "(I)I"⟩
abbrev cX9_fault : ByteArray := prog_1_method_4_code
def yX9_fault : MethodName := ⟨RX9, "fault", "(I)I"⟩
abbrev cX9_named : ByteArray := prog_1_method_5_code
def yX9_named : MethodName := ⟨RX9, "named", "(I)I"⟩
abbrev cX9_go : ByteArray := prog_1_method_6_code
def yX9_go : MethodName := ⟨RX9, "go", "(I)I"⟩
abbrev cX9_lease : ByteArray := prog_1_method_7_code
def yX9_lease : MethodName := ⟨RX9, "lease", "(II)I"⟩
abbrev cX9_amount : ByteArray := prog_1_method_8_code
def yX9_amount : MethodName := ⟨RX9, "amount", "(II)J"⟩
abbrev cX9_due : ByteArray := prog_1_method_9_code
def yX9_due : MethodName := ⟨RX9, "due", "(II)J"⟩
abbrev cX9_worth : ByteArray := prog_1_method_10_code
def yX9_worth : MethodName := ⟨RX9, "worth", "(III)J"⟩
abbrev cX9_index : ByteArray := prog_1_method_11_code
def yX9_index : MethodName := ⟨RX9, "index", "(I)I"⟩
abbrev cX9_account : ByteArray := prog_1_method_12_code
def yX9_account : MethodName := ⟨RX9, "account", "(I)J"⟩
abbrev cX9_entry : ByteArray := prog_1_method_13_code
def yX9_entry : MethodName := ⟨RX9, "entry", "(II)J"⟩
abbrev cX9_rate : ByteArray := prog_1_method_14_code
def yX9_rate : MethodName := ⟨RX9, "rate", "(II)J"⟩
abbrev cX9_extend : ByteArray := prog_1_method_15_code
def yX9_extend : MethodName := ⟨RX9, "extend", "(II)J"⟩
abbrev cX9_take : ByteArray := prog_1_method_16_code
def yX9_take : MethodName := ⟨RX9, "take", "(I)J"⟩
abbrev cX9_part : ByteArray := prog_1_method_17_code
def yX9_part : MethodName := ⟨RX9, "part", "(II)J"⟩
abbrev cX9_end : ByteArray := prog_1_method_18_code
def yX9_end : MethodName := ⟨RX9, "end", "(I)J"⟩
abbrev cX9_down : ByteArray := prog_1_method_19_code
def yX9_down : MethodName := ⟨RX9, "down", "(IJ)J"⟩
abbrev cX9_putOff : ByteArray := prog_1_method_20_code
def yX9_putOff : MethodName := ⟨RX9, "putOff", "(III)J"⟩
abbrev cX9_become : ByteArray := prog_1_method_21_code
def yX9_become : MethodName := ⟨RX9, "become", "(I)I"⟩
abbrev cX9_plan : ByteArray := prog_1_method_22_code
def yX9_plan : MethodName := ⟨RX9, "plan", "(III)J"⟩
abbrev cX9_all : ByteArray := prog_1_method_23_code
def yX9_all : MethodName := ⟨RX9, "all", "(I)J"⟩
abbrev cX9_soon : ByteArray := prog_1_method_24_code
def yX9_soon : MethodName := ⟨RX9, "soon", "(II)J"⟩
abbrev cX9_sum : ByteArray := prog_1_method_25_code
def yX9_sum : MethodName := ⟨RX9, "sum", "(II)J"⟩
abbrev cX9_moved : ByteArray := prog_1_method_26_code
def yX9_moved : MethodName := ⟨RX9, "moved", "(II)J"⟩
abbrev cX9_choose : ByteArray := prog_1_method_27_code
def yX9_choose : MethodName := ⟨RX9, "choose", "(I)I"⟩
abbrev cX9_life : ByteArray := prog_1_method_28_code
def yX9_life : MethodName := ⟨RX9, "life", "(IZ)J"⟩
abbrev cX9_peak : ByteArray := prog_1_method_29_code
def yX9_peak : MethodName := ⟨RX9, "peak", "(I)J"⟩
abbrev cX9_partFor : ByteArray := prog_1_method_30_code
def yX9_partFor : MethodName := ⟨RX9, "partFor", "(IJ)I"⟩
abbrev cX9_latest : ByteArray := prog_1_method_31_code
def yX9_latest : MethodName := ⟨RX9, "latest", "(II)I"⟩
abbrev cX9_half : ByteArray := prog_1_method_32_code
def yX9_half : MethodName := ⟨RX9, "half", "(I)I"⟩
abbrev cX9_cash : ByteArray := prog_1_method_33_code
def yX9_cash : MethodName := ⟨RX9, "cash", "(II)J"⟩
abbrev cX9_ifIndex : ByteArray := prog_1_method_34_code
def yX9_ifIndex : MethodName := ⟨RX9, "ifIndex", "(II)J"⟩
abbrev cX9_ifTaken : ByteArray := prog_1_method_35_code
def yX9_ifTaken : MethodName := ⟨RX9, "ifTaken", "(I)J"⟩
abbrev cX9_yields : ByteArray := prog_1_method_36_code
def yX9_yields : MethodName := ⟨RX9, "yields", "(IIJ)I"⟩
abbrev cX9_level : ByteArray := prog_1_method_37_code
def yX9_level : MethodName := ⟨RX9, "level", "(IJ)I"⟩
abbrev cX9_heaviest : ByteArray := prog_1_method_38_code
def yX9_heaviest : MethodName := ⟨RX9, "heaviest", "()I"⟩
abbrev cX9_chance : ByteArray := prog_1_method_39_code
def yX9_chance : MethodName := ⟨RX9, "chance", "(III)J"⟩
abbrev cX9_undo : ByteArray := prog_1_method_40_code
def yX9_undo : MethodName := ⟨RX9, "undo", "()I"⟩
abbrev cX9_keep : ByteArray := prog_1_method_41_code
def yX9_keep : MethodName := ⟨RX9, "keep", "()I"⟩
abbrev cX9_back : ByteArray := prog_1_method_42_code
def yX9_back : MethodName := ⟨RX9, "back", "()I"⟩
abbrev cX9_count : ByteArray := prog_1_method_43_code
def yX9_count : MethodName := ⟨RX9, "count", "(I)I"⟩
abbrev cX9_putOnTape : ByteArray := prog_1_method_44_code
def yX9_putOnTape : MethodName := ⟨RX9, "putOnTape", "(I)V"⟩
abbrev cX9_leaseAt : ByteArray := prog_1_method_45_code
def yX9_leaseAt : MethodName := ⟨RX9, "leaseAt", "(I)LLeaseLedger$Lease;"⟩
abbrev cX9_runningAt : ByteArray := prog_1_method_46_code
def yX9_runningAt : MethodName := ⟨RX9, "runningAt", "(I)LLeaseLedger$Lease;"⟩
abbrev cX9_coming : ByteArray := prog_1_method_47_code
def yX9_coming : MethodName := ⟨RX9, "coming", "(I)I"⟩
abbrev cX9_bookIn : ByteArray := prog_1_method_48_code
def yX9_bookIn : MethodName := ⟨RX9, "bookIn", "(I)LLeaseLedger$Book;"⟩
abbrev cX9_remember : ByteArray := prog_1_method_49_code
def yX9_remember : MethodName := ⟨RX9, "remember", "()V"⟩
abbrev cX9_forgetPast : ByteArray := prog_1_method_50_code
def yX9_forgetPast : MethodName := ⟨RX9, "forgetPast", "()V"⟩
abbrev cX9_isIndex : ByteArray := prog_1_method_51_code
def yX9_isIndex : MethodName := ⟨RX9, "isIndex", "(I)Z"⟩
abbrev cX9_isSort : ByteArray := prog_1_method_52_code
def yX9_isSort : MethodName := ⟨RX9, "isSort", "(I)Z"⟩
abbrev cX9_isWorth : ByteArray := prog_1_method_53_code
def yX9_isWorth : MethodName := ⟨RX9, "isWorth", "(J)Z"⟩
abbrev cX9_leastTerm : ByteArray := prog_1_method_54_code
def yX9_leastTerm : MethodName := ⟨RX9, "leastTerm", "(LLeaseLedger$Amount;LLeaseLedger$Amount;Z)J"⟩
def RX10 : String := "LeaseLedgerModel"
def TX10 : u_T := fun k => match k with
  | 0 => ("LeaseLedgerModel", "thrown", "I", false)
  | 1 => ("LeaseLedgerModel", "tape", "[I", true)
  | 2 => ("LeaseLedgerModel", "taped", "I", false)
  | 3 => ("LeaseLedgerModel", "number", "[I", true)
  | 4 => ("LeaseLedgerModel", "name", "[I", true)
  | 5 => ("LeaseLedgerModel", "starts", "[I", true)
  | 6 => ("LeaseLedgerModel", "term", "[I", true)
  | 7 => ("LeaseLedgerModel", "toldRate", "[I", true)
  | 8 => ("LeaseLedgerModel", "marks", "[I", true)
  | 9 => ("LeaseLedgerModel", "fair", "[I", true)
  | 10 => ("LeaseLedgerModel", "fee", "[I", true)
  | 11 => ("LeaseLedgerModel", "toldPay", "[I", true)
  | 12 => ("LeaseLedgerModel", "changeAt", "[I", true)
  | 13 => ("LeaseLedgerModel", "changeTo", "[I", true)
  | 14 => ("LeaseLedgerModel", "optionOf", "[I", true)
  | 15 => ("LeaseLedgerModel", "optionMany", "[I", true)
  | 16 => ("LeaseLedgerModel", "optionPays", "[I", true)
  | 17 => ("LeaseLedgerModel", "lines", "I", false)
  | 18 => ("LeaseLedgerModel", "size", "I", false)
  | 19 => ("LeaseLedgerModel", "at", "I", false)
  | 20 => ("LeaseLedgerModel", "place", "I", false)
  | 21 => ("LeaseLedgerModel", "sort", "I", false)
  | 22 => ("LeaseLedgerModel", "value", "I", false)
  | 23 => ("LeaseLedgerModel", "fault", "I", false)
  | 24 => ("LeaseLedgerModel", "faultPlace", "I", false)
  | 25 => ("LeaseLedgerModel", "lastFault", "I", false)
  | 26 => ("LeaseLedgerModel", "lastPlace", "I", false)
  | 27 => ("LeaseLedgerModel", "s", "[J", true)
  | 28 => ("LeaseLedgerModel", "aside", "[J", true)
  | 29 => ("LeaseLedgerModel", "further", "[J", true)
  | 30 => ("LeaseLedgerModel", "image", "[J", true)
  | 31 => ("LeaseLedgerModel", "kept", "[J", true)
  | 32 => ("LeaseLedgerModel", "undoable", "I", false)
  | 33 => ("LeaseLedgerModel", "hasImage", "Z", false)
  | 34 => ("LeaseLedgerModel", "isFound", "[Z", true)
  | 35 => ("LeaseLedgerModel", "put", "[J", true)
  | _ => ("LeaseLedgerModel", "drawn", "I", false)
def tyX10 : Nat → FieldType := fun k => match k with
  | 0 => .int
  | 1 => .array .int
  | 2 => .int
  | 3 => .array .int
  | 4 => .array .int
  | 5 => .array .int
  | 6 => .array .int
  | 7 => .array .int
  | 8 => .array .int
  | 9 => .array .int
  | 10 => .array .int
  | 11 => .array .int
  | 12 => .array .int
  | 13 => .array .int
  | 14 => .array .int
  | 15 => .array .int
  | 16 => .array .int
  | 17 => .int
  | 18 => .int
  | 19 => .int
  | 20 => .int
  | 21 => .int
  | 22 => .int
  | 23 => .int
  | 24 => .int
  | 25 => .int
  | 26 => .int
  | 27 => .array .long
  | 28 => .array .long
  | 29 => .array .long
  | 30 => .array .long
  | 31 => .array .long
  | 32 => .int
  | 33 => .boolean
  | 34 => .array .boolean
  | 35 => .array .long
  | _ => .int
abbrev wsX100 : List Cond := u_ws RX10 TX10 37
theorem nmX10 : ∀ a, a < 37 → ∀ b, b < 37 → a ≠ b → (TX10 a).2.1 ≠ (TX10 b).2.1 := by decide +kernel
theorem tyX10_ok : ∀ k, k < 37 → parseFieldDescriptor (TX10 k).2.2.1 = some (tyX10 k) := by decide +kernel
abbrev cX10_init : ByteArray := prog_12_method_1_code
def yX10_init : MethodName := ⟨RX10, "<init>", "()V"⟩
abbrev cX10_thrown : ByteArray := prog_12_method_2_code
def yX10_thrown : MethodName := ⟨RX10, "thrown", "()I"⟩
abbrev cX10_feed : ByteArray := prog_12_method_3_code
def yX10_feed : MethodName := ⟨RX10, "feed", "(IIIII)I"⟩
abbrev cX10_here : ByteArray := prog_12_method_4_code
def yX10_here : MethodName := ⟨RX10, "here", "()I"⟩
abbrev cX10_isSmall : ByteArray := prog_12_method_5_code
def yX10_isSmall : MethodName := ⟨RX10, "isSmall", "(I)Z"⟩
abbrev cX10_isDigit : ByteArray := prog_12_method_6_code
def yX10_isDigit : MethodName := ⟨RX10, "isDigit", "(I)Z"⟩
abbrev cX10_token : ByteArray := prog_12_method_7_code
def yX10_token : MethodName := ⟨RX10, "token", "()V"⟩
abbrev cX10_wordHere : ByteArray := prog_12_method_8_code
def yX10_wordHere : MethodName := ⟨RX10, "wordHere", "()I"⟩
abbrev cX10_nameHere : ByteArray := prog_12_method_9_code
def yX10_nameHere : MethodName := ⟨RX10, "nameHere", "()V"⟩
abbrev cX10_wrong : ByteArray := prog_12_method_10_code
def yX10_wrong : MethodName := ⟨RX10, "wrong", "(I)V"⟩
abbrev cX10_goOn : ByteArray := prog_12_method_11_code
def yX10_goOn : MethodName := ⟨RX10, "goOn", "()V"⟩
abbrev cX10_numeral : ByteArray := prog_12_method_12_code
def yX10_numeral : MethodName := ⟨RX10, "numeral", "(II)I"⟩
abbrev cX10_reading : ByteArray := prog_12_method_13_code
def yX10_reading : MethodName := ⟨RX10, "reading", "(I)I"⟩
abbrev cX10_reads : ByteArray := prog_12_method_14_code
def yX10_reads : MethodName := ⟨RX10, "reads", "(II)V"⟩
abbrev cX10_namedAt : ByteArray := prog_12_method_15_code
def yX10_namedAt : MethodName := ⟨RX10, "namedAt", "(III)I"⟩
abbrev cX10_readLease : ByteArray := prog_12_method_16_code
def yX10_readLease : MethodName := ⟨RX10, "readLease", "()V"⟩
abbrev cX10_atHand : ByteArray := prog_12_method_17_code
def yX10_atHand : MethodName := ⟨RX10, "atHand", "()I"⟩
abbrev cX10_readPay : ByteArray := prog_12_method_18_code
def yX10_readPay : MethodName := ⟨RX10, "readPay", "()V"⟩
abbrev cX10_readMark : ByteArray := prog_12_method_19_code
def yX10_readMark : MethodName := ⟨RX10, "readMark", "(I)V"⟩
abbrev cX10_readFair : ByteArray := prog_12_method_20_code
def yX10_readFair : MethodName := ⟨RX10, "readFair", "()V"⟩
abbrev cX10_readFee : ByteArray := prog_12_method_21_code
def yX10_readFee : MethodName := ⟨RX10, "readFee", "()V"⟩
abbrev cX10_readChange : ByteArray := prog_12_method_22_code
def yX10_readChange : MethodName := ⟨RX10, "readChange", "()V"⟩
abbrev cX10_readOption : ByteArray := prog_12_method_23_code
def yX10_readOption : MethodName := ⟨RX10, "readOption", "()V"⟩
abbrev cX10_readSeed : ByteArray := prog_12_method_24_code
def yX10_readSeed : MethodName := ⟨RX10, "readSeed", "()V"⟩
abbrev cX10_readLine : ByteArray := prog_12_method_25_code
def yX10_readLine : MethodName := ⟨RX10, "readLine", "()V"⟩
abbrev cX10_freshText : ByteArray := prog_12_method_26_code
def yX10_freshText : MethodName := ⟨RX10, "freshText", "()V"⟩
abbrev cX10_readText : ByteArray := prog_12_method_27_code
def yX10_readText : MethodName := ⟨RX10, "readText", "(I)V"⟩
abbrev cX10_takeText : ByteArray := prog_12_method_28_code
def yX10_takeText : MethodName := ⟨RX10, "takeText", "()V"⟩
abbrev cX10_text : ByteArray := prog_12_method_29_code
def yX10_text : MethodName := ⟨RX10, "text", "(I)I"⟩
abbrev cX10_fault : ByteArray := prog_12_method_30_code
def yX10_fault : MethodName := ⟨RX10, "fault", "(I)I"⟩
abbrev cX10_leases : ByteArray := prog_12_method_31_code
def yX10_leases : MethodName := ⟨RX10, "leases", "()I"⟩
abbrev cX10_named : ByteArray := prog_12_method_32_code
def yX10_named : MethodName := ⟨RX10, "named", "(I)I"⟩
abbrev cX10_copies : ByteArray := prog_12_method_33_code
def yX10_copies : MethodName := ⟨RX10, "copies", "([JI[JI)V"⟩
abbrev cX10_begins : ByteArray := prog_12_method_34_code
def yX10_begins : MethodName := ⟨RX10, "begins", "()V"⟩
abbrev cX10_remembers : ByteArray := prog_12_method_35_code
def yX10_remembers : MethodName := ⟨RX10, "remembers", "()V"⟩
abbrev cX10_rounded : ByteArray := prog_12_method_36_code
def yX10_rounded : MethodName := ⟨RX10, "rounded", "(JJ)J"⟩
abbrev cX10_isEarly : ByteArray := prog_12_method_37_code
def yX10_isEarly : MethodName := ⟨RX10, "isEarly", "(I)Z"⟩
abbrev cX10_isTied : ByteArray := prog_12_method_38_code
def yX10_isTied : MethodName := ⟨RX10, "isTied", "(I)Z"⟩
abbrev cX10_worthBy : ByteArray := prog_12_method_39_code
def yX10_worthBy : MethodName := ⟨RX10, "worthBy", "(IIJJ)J"⟩
abbrev cX10_rateFor : ByteArray := prog_12_method_40_code
def yX10_rateFor : MethodName := ⟨RX10, "rateFor", "(IIJ)I"⟩
abbrev cX10_left : ByteArray := prog_12_method_41_code
def yX10_left : MethodName := ⟨RX10, "left", "(I)I"⟩
abbrev cX10_isOn : ByteArray := prog_12_method_42_code
def yX10_isOn : MethodName := ⟨RX10, "isOn", "(I)Z"⟩
abbrev cX10_entry : ByteArray := prog_12_method_43_code
def yX10_entry : MethodName := ⟨RX10, "entry", "(IIJJJJJJ)V"⟩
abbrev cX10_remeasures : ByteArray := prog_12_method_44_code
def yX10_remeasures : MethodName := ⟨RX10, "remeasures", "(I)J"⟩
abbrev cX10_indexes : ByteArray := prog_12_method_45_code
def yX10_indexes : MethodName := ⟨RX10, "indexes", "(IJ)V"⟩
abbrev cX10_indexNow : ByteArray := prog_12_method_46_code
def yX10_indexNow : MethodName := ⟨RX10, "indexNow", "()J"⟩
abbrev cX10_pays : ByteArray := prog_12_method_47_code
def yX10_pays : MethodName := ⟨RX10, "pays", "(I)V"⟩
abbrev cX10_starts1 : ByteArray := prog_12_method_48_code
def yX10_starts1 : MethodName := ⟨RX10, "starts1", "(I)V"⟩
abbrev cX10_periodGoes : ByteArray := prog_12_method_49_code
def yX10_periodGoes : MethodName := ⟨RX10, "periodGoes", "()V"⟩
abbrev cX10_go : ByteArray := prog_12_method_50_code
def yX10_go : MethodName := ⟨RX10, "go", "(I)I"⟩
abbrev cX10_isLease : ByteArray := prog_12_method_51_code
def yX10_isLease : MethodName := ⟨RX10, "isLease", "(I)Z"⟩
abbrev cX10_isRunning : ByteArray := prog_12_method_52_code
def yX10_isRunning : MethodName := ⟨RX10, "isRunning", "(I)Z"⟩
abbrev cX10_lease : ByteArray := prog_12_method_53_code
def yX10_lease : MethodName := ⟨RX10, "lease", "(II)I"⟩
abbrev cX10_amount : ByteArray := prog_12_method_54_code
def yX10_amount : MethodName := ⟨RX10, "amount", "(II)J"⟩
abbrev cX10_isOwn : ByteArray := prog_12_method_55_code
def yX10_isOwn : MethodName := ⟨RX10, "isOwn", "(II)Z"⟩
abbrev cX10_due : ByteArray := prog_12_method_56_code
def yX10_due : MethodName := ⟨RX10, "due", "(II)J"⟩
abbrev cX10_worth : ByteArray := prog_12_method_57_code
def yX10_worth : MethodName := ⟨RX10, "worth", "(III)J"⟩
abbrev cX10_index : ByteArray := prog_12_method_58_code
def yX10_index : MethodName := ⟨RX10, "index", "(I)I"⟩
abbrev cX10_account : ByteArray := prog_12_method_59_code
def yX10_account : MethodName := ⟨RX10, "account", "(I)J"⟩
abbrev cX10_entry_ : ByteArray := prog_12_method_60_code
def yX10_entry_ : MethodName := ⟨RX10, "entry", "(II)J"⟩
abbrev cX10_sum : ByteArray := prog_12_method_61_code
def yX10_sum : MethodName := ⟨RX10, "sum", "(II)J"⟩
abbrev cX10_moved : ByteArray := prog_12_method_62_code
def yX10_moved : MethodName := ⟨RX10, "moved", "(II)J"⟩
abbrev cX10_rate : ByteArray := prog_12_method_63_code
def yX10_rate : MethodName := ⟨RX10, "rate", "(II)J"⟩
abbrev cX10_adds : ByteArray := prog_12_method_64_code
def yX10_adds : MethodName := ⟨RX10, "adds", "(IIJJ)V"⟩
abbrev cX10_canBeLonger : ByteArray := prog_12_method_65_code
def yX10_canBeLonger : MethodName := ⟨RX10, "canBeLonger", "(II)Z"⟩
abbrev cX10_extend : ByteArray := prog_12_method_66_code
def yX10_extend : MethodName := ⟨RX10, "extend", "(II)J"⟩
abbrev cX10_canTake : ByteArray := prog_12_method_67_code
def yX10_canTake : MethodName := ⟨RX10, "canTake", "(I)Z"⟩
abbrev cX10_takes : ByteArray := prog_12_method_68_code
def yX10_takes : MethodName := ⟨RX10, "takes", "(I)J"⟩
abbrev cX10_take : ByteArray := prog_12_method_69_code
def yX10_take : MethodName := ⟨RX10, "take", "(I)J"⟩
abbrev cX10_part : ByteArray := prog_12_method_70_code
def yX10_part : MethodName := ⟨RX10, "part", "(II)J"⟩
abbrev cX10_gives : ByteArray := prog_12_method_71_code
def yX10_gives : MethodName := ⟨RX10, "gives", "(IIJJ)V"⟩
abbrev cX10_end : ByteArray := prog_12_method_72_code
def yX10_end : MethodName := ⟨RX10, "end", "(I)J"⟩
abbrev cX10_down : ByteArray := prog_12_method_73_code
def yX10_down : MethodName := ⟨RX10, "down", "(IJ)J"⟩
abbrev cX10_putOff : ByteArray := prog_12_method_74_code
def yX10_putOff : MethodName := ⟨RX10, "putOff", "(III)J"⟩
abbrev cX10_becomes : ByteArray := prog_12_method_75_code
def yX10_becomes : MethodName := ⟨RX10, "becomes", "(J)V"⟩
abbrev cX10_become : ByteArray := prog_12_method_76_code
def yX10_become : MethodName := ⟨RX10, "become", "(I)I"⟩
abbrev cX10_ahead : ByteArray := prog_12_method_77_code
def yX10_ahead : MethodName := ⟨RX10, "ahead", "(I)V"⟩
abbrev cX10_back1 : ByteArray := prog_12_method_78_code
def yX10_back1 : MethodName := ⟨RX10, "back1", "()V"⟩
abbrev cX10_areAhead : ByteArray := prog_12_method_79_code
def yX10_areAhead : MethodName := ⟨RX10, "areAhead", "(I)Z"⟩
abbrev cX10_plan : ByteArray := prog_12_method_80_code
def yX10_plan : MethodName := ⟨RX10, "plan", "(III)J"⟩
abbrev cX10_owedAll : ByteArray := prog_12_method_81_code
def yX10_owedAll : MethodName := ⟨RX10, "owedAll", "()J"⟩
abbrev cX10_all : ByteArray := prog_12_method_82_code
def yX10_all : MethodName := ⟨RX10, "all", "(I)J"⟩
abbrev cX10_soon : ByteArray := prog_12_method_83_code
def yX10_soon : MethodName := ⟨RX10, "soon", "(II)J"⟩
abbrev cX10_half : ByteArray := prog_12_method_84_code
def yX10_half : MethodName := ⟨RX10, "half", "(I)I"⟩
abbrev cX10_divisor : ByteArray := prog_12_method_85_code
def yX10_divisor : MethodName := ⟨RX10, "divisor", "(JJ)J"⟩
abbrev cX10_life : ByteArray := prog_12_method_86_code
def yX10_life : MethodName := ⟨RX10, "life", "(IZ)J"⟩
abbrev cX10_peak : ByteArray := prog_12_method_87_code
def yX10_peak : MethodName := ⟨RX10, "peak", "(I)J"⟩
abbrev cX10_partFor : ByteArray := prog_12_method_88_code
def yX10_partFor : MethodName := ⟨RX10, "partFor", "(IJ)I"⟩
abbrev cX10_latest : ByteArray := prog_12_method_89_code
def yX10_latest : MethodName := ⟨RX10, "latest", "(II)I"⟩
abbrev cX10_paidAll : ByteArray := prog_12_method_90_code
def yX10_paidAll : MethodName := ⟨RX10, "paidAll", "()J"⟩
abbrev cX10_cash : ByteArray := prog_12_method_91_code
def yX10_cash : MethodName := ⟨RX10, "cash", "(II)J"⟩
abbrev cX10_ifIndex : ByteArray := prog_12_method_92_code
def yX10_ifIndex : MethodName := ⟨RX10, "ifIndex", "(II)J"⟩
abbrev cX10_ifTaken : ByteArray := prog_12_method_93_code
def yX10_ifTaken : MethodName := ⟨RX10, "ifTaken", "(I)J"⟩
abbrev cX10_takesAll : ByteArray := prog_12_method_94_code
def yX10_takesAll : MethodName := ⟨RX10, "takesAll", "(II)Z"⟩
abbrev cX10_choose : ByteArray := prog_12_method_95_code
def yX10_choose : MethodName := ⟨RX10, "choose", "(I)I"⟩
abbrev cX10_yields : ByteArray := prog_12_method_96_code
def yX10_yields : MethodName := ⟨RX10, "yields", "(IIJ)I"⟩
abbrev cX10_level : ByteArray := prog_12_method_97_code
def yX10_level : MethodName := ⟨RX10, "level", "(IJ)I"⟩
abbrev cX10_heaviest : ByteArray := prog_12_method_98_code
def yX10_heaviest : MethodName := ⟨RX10, "heaviest", "()I"⟩
abbrev cX10_draw : ByteArray := prog_12_method_99_code
def yX10_draw : MethodName := ⟨RX10, "draw", "(I)I"⟩
abbrev cX10_held : ByteArray := prog_12_method_100_code
def yX10_held : MethodName := ⟨RX10, "held", "(J)J"⟩
abbrev cX10_chance : ByteArray := prog_12_method_101_code
def yX10_chance : MethodName := ⟨RX10, "chance", "(III)J"⟩
abbrev cX10_undo : ByteArray := prog_12_method_102_code
def yX10_undo : MethodName := ⟨RX10, "undo", "()I"⟩
abbrev cX10_keep : ByteArray := prog_12_method_103_code
def yX10_keep : MethodName := ⟨RX10, "keep", "()I"⟩
abbrev cX10_back : ByteArray := prog_12_method_104_code
def yX10_back : MethodName := ⟨RX10, "back", "()I"⟩
abbrev cX10_running : ByteArray := prog_12_method_105_code
def yX10_running : MethodName := ⟨RX10, "running", "()I"⟩
abbrev cX10_count : ByteArray := prog_12_method_106_code
def yX10_count : MethodName := ⟨RX10, "count", "(I)I"⟩
end
section
/-! THE LAYER: memory is a partial map from addresses to cells; every method's words are the good ones of lw_tbl -/
def RJ7 : String := "java/util/Arrays"
abbrev classes : List vw_C := [(RX1, TX1, 2), (RX2, TX2, 13), (RX3, TX3, 3), (RX5, TX5, 18), (RX6, TX6, 4), (RX7, TX7, 13), (RX8, TX8, 3), (RX9, TX9, 13), (RX10, TX10, 37)]
abbrev tysOf (cA : Nat → ClassId) : List (ClassId × FieldType) := [(cA 0, .int), (cA 1, .long), (cA 2, .byte), (cA 3, .boolean), (cA 4, .object RX5), (cA 5, .object RX6), (cA 6, .object RX2)]
def nestW : List Cond := [.methodLinkNest RX2 32 yX3_init RX9, .methodLinkNest RX2 39 yX1_init RX9, .methodLinkNest RX2 50 yX5_init RX9, .methodLinkNest RX5 11 yX1_init RX9, .methodLinkNest RX5 23 yX8_init RX9, .methodLinkNest RX8 20 yX1_init RX9, .methodLinkNest RX2 51 yX6_init RX9, .methodLinkNest RX9 41 yX1_init RX9, .fieldLinkNest RX7 200 RX9 "KINDS" "[LLeaseLedger$Kind;" RX9]
def tb : List Cond := lw_tbl.filter goodWord
theorem tb_in {w : Cond} (i : Nat) (h : tables_1[i]? = some w) (hg : goodWord w = true) : w ∈ tb := List.mem_filter.mpr ⟨List.mem_append_right _ (List.mem_of_getElem? h), hg⟩
theorem tb_sel {w : Cond} (i : Nat) (h : (k2_sels lw_privs)[i]? = some w) (hg : goodWord w = true) : w ∈ tb := List.mem_filter.mpr ⟨List.mem_append_left _ (List.mem_of_getElem? h), hg⟩
theorem tb_all {ws : List Cond} (is : List Nat) (h : ws = is.filterMap (fun i => tables_1[i]?)) (hg : ws.all goodWord = true) : ∀ w ∈ ws, w ∈ tb := by
  intro w hw
  have h1 := List.all_eq_true.mp hg w hw
  rw [h] at hw
  obtain ⟨i, -, hi⟩ := List.mem_filterMap.mp hw
  exact tb_in i hi h1
theorem tb_good {w : Cond} (h : w ∈ tb) : (w.onTables && w.keeps) = true ∨ ∃ ty, w = .arrayClass ty := good_of_word (List.mem_filter.mp h).2
theorem tb_gi {ws : List Cond} (h : ∀ w ∈ ws, w ∈ tb) : GoodIn tb ws := fun w hw => ⟨h w hw, tb_good (h w hw)⟩
abbrev Mem : Type := Nat → Option va_E
abbrev VX : Type := va_G × (Nat → ClassId) × Heap
abbrev aI (V : VX) (n : Nat) (f : Nat → Int32) : va_E := .inl (V.2.1 0, n, .inl f)
abbrev aJ (V : VX) (n : Nat) (f : Nat → Int64) : va_E := .inl (V.2.1 1, n, .inr (.inl f))
abbrev aB (V : VX) (n : Nat) (f : Nat → Int32) : va_E := .inl (V.2.1 2, n, .inl f)
abbrev aZ (V : VX) (n : Nat) (f : Nat → Int32) : va_E := .inl (V.2.1 3, n, .inl f)
abbrev aR (i : Nat) (V : VX) (n : Nat) (f : Nat → Option Nat) : va_E := .inl (V.2.1 i, n, .inr (.inr (.inr (.inr f))))
abbrev ob (ci : Nat) (fs : List Value) : va_E := .inr (ci, fs)
def KU (V : VX) (U : State) : Prop := va_K V.1 classes (tysOf V.2.1) U ∧ (∀ w ∈ nestW, va_Nw w U) ∧ va_AO RX5 U ∧ va_AO RX6 U ∧ va_AO RX2 U
theorem nest_warm {s U : State} (hW : s.WarmedH U.vm) {w : Cond} (hw : w ∈ nestW) (h : va_Nw w s) : va_Nw w U := by
  simp only [nestW, List.mem_cons, List.not_mem_nil, or_false] at hw
  rcases hw with rfl | rfl | rfl | rfl | rfl | rfl | rfl | rfl | rfl
  · exact va_Nw.warmM hW h
  · exact va_Nw.warmM hW h
  · exact va_Nw.warmM hW h
  · exact va_Nw.warmM hW h
  · exact va_Nw.warmM hW h
  · exact va_Nw.warmM hW h
  · exact va_Nw.warmM hW h
  · exact va_Nw.warmM hW h
  · exact va_Nw.warmF hW h
theorem nest_on {w : Cond} (hw : w ∈ nestW) : w.onTables = true := by
  simp only [nestW, List.mem_cons, List.not_mem_nil, or_false] at hw
  rcases hw with rfl | rfl | rfl | rfl | rfl | rfl | rfl | rfl | rfl <;> rfl
theorem KU.warm {V : VX} {s U : State} (hW : s.WarmedH U.vm) (h : KU V s) : KU V U := ⟨va_K.moved hW.alike h.1, fun w hw => nest_warm hW hw (h.2.1 w hw), va_AO.moved hW.alike h.2.2.1, va_AO.moved hW.alike h.2.2.2.1, va_AO.moved hW.alike h.2.2.2.2⟩
theorem KU.call {V : VX} {U : State} {g : JFrame} {mk : MethodId} {a : Array Value} (h : KU V U) : KU V (U.calling g mk a) := ⟨va_K.moved (u := U) (U := U.calling g mk a) (Vm.Alike.refl U.vm) h.1, fun w hw => va_Nw.same (u := U) (U := U.calling g mk a) (nest_on hw) rfl (h.2.1 w hw), va_AO.moved (u := U) (U := U.calling g mk a) (Vm.Alike.refl U.vm) h.2.2.1, va_AO.moved (u := U) (U := U.calling g mk a) (Vm.Alike.refl U.vm) h.2.2.2.1, va_AO.moved (u := U) (U := U.calling g mk a) (Vm.Alike.refl U.vm) h.2.2.2.2⟩
def HM (V : VX) (N : Nat) (σ : Mem) (H : Heap) : Prop := H.size = N ∧ V.2.2.size ≤ N ∧ (∀ q : Nat, q < V.2.2.size → H[q]? = V.2.2[q]?) ∧ ∀ (a : Nat) (e : va_E), σ a = some e → V.2.2.size ≤ a ∧ va_at V.1 classes (a, e) H
theorem HM.at {V : VX} {N : Nat} {σ : Mem} {H : Heap} (h : HM V N σ H) {a : Nat} {e : va_E} (ha : σ a = some e) : va_at V.1 classes (a, e) H := (h.2.2.2 a e ha).2
theorem HM.one {V : VX} {N : Nat} {σ : Mem} {H : Heap} (h : HM V N σ H) {a : Nat} {e : va_E} (ha : σ a = some e) : va_P V.1 classes [(a, e)] H := by
  intro k q hk
  match k, hk with
  | 0, hk => cases hk; exact h.at ha
  | k + 1, hk => simp at hk
theorem HM.put {V : VX} {N : Nat} {σ : Mem} {H H' : Heap} (h : HM V N σ H) {a : Nat} {e e' : va_E} (ha : σ a = some e) (hz : H'.size = H.size) (ho : ∀ q : Nat, q ≠ a → H'[q]? = H[q]?) (hn : va_at V.1 classes (a, e') H') : HM V N (va_up σ a (some e')) H' := by
  have hle := (h.2.2.2 a e ha).1
  refine ⟨hz.trans h.1, h.2.1, fun q hq => ?_, fun b x hb => ?_⟩
  · rw [ho q (by omega)]; exact h.2.2.1 q hq
  · by_cases hba : b = a
    · subst hba; rw [va_up_self] at hb; cases hb; exact ⟨hle, hn⟩
    · rw [va_up_ne _ _ hba] at hb
      exact ⟨(h.2.2.2 b x hb).1, va_at.kept (h.2.2.2 b x hb).2 (ho b hba)⟩
theorem HM.new {V : VX} {N : Nat} {σ : Mem} {H H' : Heap} (h : HM V N σ H) {e' : va_E} (hz : H'.size = H.size + 1) (ho : ∀ q : Nat, q < H.size → H'[q]? = H[q]?) (hn : va_at V.1 classes (N, e') H') : HM V (N + 1) (va_up σ N (some e')) H' := by
  have hN := h.1
  have hG := h.2.1
  refine ⟨by omega, by omega, fun q hq => ?_, fun b x hb => ?_⟩
  · rw [ho q (by omega)]; exact h.2.2.1 q hq
  · by_cases hba : b = N
    · subst hba; rw [va_up_self] at hb; cases hb; exact ⟨hG, hn⟩
    · rw [va_up_ne _ _ hba] at hb
      exact ⟨(h.2.2.2 b x hb).1, va_at.kept (h.2.2.2 b x hb).2 (ho b (h.2.2.2 b x hb).2.lt)⟩
theorem HM.lt {V : VX} {N : Nat} {σ : Mem} {H : Heap} (h : HM V N σ H) {a : Nat} {e : va_E} (ha : σ a = some e) : V.2.2.size ≤ a ∧ a < N := ⟨(h.2.2.2 a e ha).1, by have := (h.2.2.2 a e ha).2.lt; rw [h.1] at this; exact this⟩
theorem HM.mono {V : VX} {N : Nat} {σ τ : Mem} {H : Heap} (h : HM V N σ H) (hs : ∀ a e, τ a = some e → σ a = some e) : HM V N τ H := ⟨h.1, h.2.1, h.2.2.1, fun a e ha => h.2.2.2 a e (hs a e ha)⟩
theorem HM.start {V : VX} : HM V V.2.2.size (fun _ => none) V.2.2 := ⟨rfl, Nat.le_refl _, fun _ _ => rfl, fun _ _ h => by cases h⟩
-- what a method's walk keeps
abbrev MX : Type := (Program × Launch × Env × Room × State × MethodId × Array Value × List Frame × Method × Code) × (State → Prop)
abbrev x_p (X : MX) : Program := X.1.1
abbrev x_l (X : MX) : Launch := X.1.2.1
abbrev x_e (X : MX) : Env := X.1.2.2.1
abbrev x_R (X : MX) : Room := X.1.2.2.2.1
abbrev x_s (X : MX) : State := X.1.2.2.2.2.1
abbrev x_m (X : MX) : MethodId := X.1.2.2.2.2.2.1
abbrev x_a (X : MX) : Array Value := X.1.2.2.2.2.2.2.1
abbrev x_b (X : MX) : List Frame := X.1.2.2.2.2.2.2.2.1
abbrev x_t (X : MX) : Method := X.1.2.2.2.2.2.2.2.2.1
abbrev x_c (X : MX) : Code := X.1.2.2.2.2.2.2.2.2.2
abbrev x_Q (X : MX) : State → Prop := X.2
def Wm (V : VX) (X : MX) (nL N : Nat) (σ : Mem) (k z pc : Nat) (lv : List (Nat × Value)) (st : List Value) : Prop :=
  ∀ (H : Heap) (locs : List Loc) (ls : Array Slot), HM V N σ H → (∀ q ∈ locs, V.2.2.size ≤ q.base) → lv_has ls nL lv → W (x_p X) (x_l X) (x_e X) (x_R X) (x_s X) (x_m X) (x_a X) (x_b X) (x_t X) (x_c X) H locs k z (x_Q X) (F0 (x_m X) pc ls st)
def Fx (V : VX) (X : MX) (y : MethodName) (cc : ByteArray) (nL : Nat) (ret : Option FieldType) (R : Room) : Prop :=
  (x_p X).tables.exec = Jvm.exec ∧ (x_c X).code = cc ∧ (x_c X).maxLocals = nL ∧ (x_s X).vm.findClass y.cls = some (x_m X).cls ∧ (∀ w ∈ tb, w.before (x_a X) (x_s X) = true) ∧ KU V (x_s X) ∧ (x_t X).sig.returnType = ret ∧ (x_t X).locks = false ∧ (x_t X).name = y.name ∧ x_R X = R
section FX
variable {V : VX} {X : MX} {y : MethodName} {cc : ByteArray} {nL : Nat} {ret : Option FieldType} {R : Room}
theorem Fx.e (F : Fx V X y cc nL ret R) : (x_p X).tables.exec = Jvm.exec := F.1
theorem Fx.b (F : Fx V X y cc nL ret R) : (x_c X).code = cc := F.2.1
theorem Fx.ml (F : Fx V X y cc nL ret R) : (x_c X).maxLocals = nL := F.2.2.1
theorem Fx.own (F : Fx V X y cc nL ret R) : (x_s X).vm.findClass y.cls = some (x_m X).cls := F.2.2.2.1
theorem Fx.ts (F : Fx V X y cc nL ret R) : ∀ w ∈ tb, w.before (x_a X) (x_s X) = true := F.2.2.2.2.1
theorem Fx.ku (F : Fx V X y cc nL ret R) : KU V (x_s X) := F.2.2.2.2.2.1
theorem Fx.rt (F : Fx V X y cc nL ret R) : (x_t X).sig.returnType = ret := F.2.2.2.2.2.2.1
theorem Fx.lk (F : Fx V X y cc nL ret R) : (x_t X).locks = false := F.2.2.2.2.2.2.2.1
theorem Fx.nm (F : Fx V X y cc nL ret R) : (x_t X).name = y.name := F.2.2.2.2.2.2.2.2.1
theorem Fx.rm (F : Fx V X y cc nL ret R) : x_R X = R := F.2.2.2.2.2.2.2.2.2
end FX
def DC (cc : ByteArray) (pc len n : Nat) (i : Instr) : Prop := decode cc pc = .ok (i, len) ∧ pc + len = n
def DJ (cc : ByteArray) (pc tgt n : Nat) (mk : Int → Instr) : Prop := ∃ off : Int, decode cc pc = .ok (mk off, 3) ∧ (pc : Int) + off = (tgt : Int) ∧ pc + 3 = n
theorem DJ.mk {cc : ByteArray} {pc tgt n : Nat} {f : Int → Instr} (off : Int) (h : decode cc pc = .ok (f off, 3)) (h1 : (pc : Int) + off = (tgt : Int)) (h2 : pc + 3 = n) : DJ cc pc tgt n f := ⟨off, h, h1, h2⟩
def lvg (lv : List (Nat × Value)) (i : Nat) : Option Value := (lv.find? (fun q => q.1 == i)).map Prod.snd
theorem lvg_has {ls : Array Slot} {nL : Nat} {lv : List (Nat × Value)} (h : lv_has ls nL lv) {i : Nat} {v : Value} (hg : lvg lv i = some v) : ls[i]? = some (.val v) := by
  unfold lvg at hg
  obtain ⟨q, hq, rfl⟩ := Option.map_eq_some_iff.mp hg
  have h1 := List.mem_of_find?_eq_some hq
  have h2 := List.find?_some hq
  have h3 : q.1 = i := by simpa using h2
  rw [← h3]
  exact h.2.2 q h1
theorem lvg_ex {ls : Array Slot} {nL : Nat} {lv : List (Nat × Value)} (_h : lv_has ls nL lv) {i : Nat} {v : Value} (hg : lvg lv i = some v) : ∃ k : Nat, lv[k]? = some (i, v) := by
  unfold lvg at hg
  obtain ⟨q, hq, rfl⟩ := Option.map_eq_some_iff.mp hg
  have h1 := List.mem_of_find?_eq_some hq
  have h2 := List.find?_some hq
  have h3 : q.1 = i := by simpa using h2
  obtain ⟨k, hk⟩ := List.getElem?_of_mem h1
  exact ⟨k, by rw [hk, ← h3]⟩
def lvs1 (lv : List (Nat × Value)) (i : Nat) (v : Value) : List (Nat × Value) := (i, v) :: lv.filter (fun q => !(q.1 == i) && !(q.1 + 1 == i && q.2.category == 2))
def lvs2 (lv : List (Nat × Value)) (i : Nat) (v : Value) : List (Nat × Value) := (i, v) :: lv.filter (fun q => !(q.1 == i) && (!(q.1 == i + 1) && !(q.1 + 1 == i && q.2.category == 2)))
theorem Wm.mem {V : VX} {X : MX} {nL N k z pc : Nat} {σ τ : Mem} {lv : List (Nat × Value)} {st : List Value} (h : Wm V X nL N τ k z pc lv st) (hs : ∀ a e, τ a = some e → σ a = some e) : Wm V X nL N σ k z pc lv st := fun H locs ls h1 h2 h3 => h H locs ls (h1.mono hs) h2 h3
theorem Wm.lvsub {V : VX} {X : MX} {nL N k z pc : Nat} {σ : Mem} {lv lv' : List (Nat × Value)} {st : List Value} (h : Wm V X nL N σ k z pc lv' st) (ks : List Nat) (hl : lv_pick lv ks = lv') : Wm V X nL N σ k z pc lv st := fun H locs ls h1 h2 h3 => h H locs ls h1 h2 (lv_sub h3 ks hl)
theorem Wm.widen {V : VX} {X : MX} {nL N k z k' z' pc : Nat} {σ : Mem} {lv : List (Nat × Value)} {st : List Value} (h1 : k ≤ k') (h2 : z ≤ z') (h : Wm V X nL N σ k' z' pc lv st) : Wm V X nL N σ k z pc lv st := fun H locs ls a b c => W.widen h1 h2 (h H locs ls a b c)
theorem Wm.top {V : VX} {X : MX} {nL N k z pc : Nat} {σ : Mem} {lv : List (Nat × Value)} {st : List Value} {x : Int32} (h : ∀ w : Int32, w = x → Wm V X nL N σ k z pc lv (.int w :: st)) : Wm V X nL N σ k z pc lv (.int x :: st) := h x rfl
theorem Wm.topl {V : VX} {X : MX} {nL N k z pc : Nat} {σ : Mem} {lv : List (Nat × Value)} {st : List Value} {x : Int64} (h : ∀ w : Int64, w = x → Wm V X nL N σ k z pc lv (.long w :: st)) : Wm V X nL N σ k z pc lv (.long x :: st) := h x rfl
theorem Wm.topE {V : VX} {X : MX} {nL N k z pc : Nat} {σ : Mem} {lv : List (Nat × Value)} {st : List Value} {x w : Int32} (e : x = w) (h : Wm V X nL N σ k z pc lv (.int w :: st)) : Wm V X nL N σ k z pc lv (.int x :: st) := e ▸ h
theorem Wm.toplE {V : VX} {X : MX} {nL N k z pc : Nat} {σ : Mem} {lv : List (Nat × Value)} {st : List Value} {x w : Int64} (e : x = w) (h : Wm V X nL N σ k z pc lv (.long w :: st)) : Wm V X nL N σ k z pc lv (.long x :: st) := e ▸ h
theorem Wm.memE {V : VX} {X : MX} {nL N k z pc : Nat} {σ τ : Mem} {lv : List (Nat × Value)} {st : List Value} (e : σ = τ) (h : Wm V X nL N τ k z pc lv st) : Wm V X nL N σ k z pc lv st := e ▸ h
section ROWS
variable {V : VX} {X : MX} {y : MethodName} {cc : ByteArray} {nL N k z pc n : Nat} {ret : Option FieldType} {R : Room} {σ : Mem} {lv : List (Nat × Value)} {st : List Value}
theorem m_iconst (F : Fx V X y cc nL ret R) {i : Int} {v : Int32} (hv : Int32.ofInt i = v) (d : DC cc pc 1 n (.iconst i)) (kk : Wm V X nL N σ k z n lv (.int v :: st)) : Wm V X nL N σ k z pc lv (st) := by
  obtain ⟨d, rfl⟩ := d
  exact fun H locs ls h1 h2 h3 => lv_iconst F.e F.b d hv (kk H locs ls h1 h2 h3)
theorem m_bipush (F : Fx V X y cc nL ret R) {i : Int} {v : Int32} (hv : (Int8.ofInt i).toInt32 = v) (d : DC cc pc 2 n (.bipush i)) (kk : Wm V X nL N σ k z n lv (.int v :: st)) : Wm V X nL N σ k z pc lv (st) := by
  obtain ⟨d, rfl⟩ := d
  exact fun H locs ls h1 h2 h3 => lv_bipush F.e F.b d hv (kk H locs ls h1 h2 h3)
theorem m_sipush (F : Fx V X y cc nL ret R) {i : Int} {v : Int32} (hv : (Int16.ofInt i).toInt32 = v) (d : DC cc pc 3 n (.sipush i)) (kk : Wm V X nL N σ k z n lv (.int v :: st)) : Wm V X nL N σ k z pc lv (st) := by
  obtain ⟨d, rfl⟩ := d
  exact fun H locs ls h1 h2 h3 => lv_sipush F.e F.b d hv (kk H locs ls h1 h2 h3)
theorem m_lconst (F : Fx V X y cc nL ret R) {i : Fin 2} {v : Int64} (hv : Int64.ofNat (i : Nat) = v) (d : DC cc pc 1 n (.lconst i)) (kk : Wm V X nL N σ k z n lv (.long v :: st)) : Wm V X nL N σ k z pc lv (st) := by
  obtain ⟨d, rfl⟩ := d
  exact fun H locs ls h1 h2 h3 => lv_lconst F.e F.b d hv (kk H locs ls h1 h2 h3)
theorem m_null (F : Fx V X y cc nL ret R)  (d : DC cc pc 1 n (.aconst_null)) (kk : Wm V X nL N σ k z n lv (.null :: st)) : Wm V X nL N σ k z pc lv (st) := by
  obtain ⟨d, rfl⟩ := d
  exact fun H locs ls h1 h2 h3 => lv_null F.e F.b d (kk H locs ls h1 h2 h3)
theorem m_ldc (F : Fx V X y cc nL ret R) {i : Nat} {v : Int32} (hc : Cond.constant y.cls i v ∈ tb) (d : DC cc pc 2 n (.ldc i)) (kk : Wm V X nL N σ k z n lv (.int v :: st)) : Wm V X nL N σ k z pc lv (st) := by
  obtain ⟨d, rfl⟩ := d
  exact fun H locs ls h1 h2 h3 => lv_ldc F.e F.b F.own (F.ts _ hc) d (kk H locs ls h1 h2 h3)
theorem m_ldcw (F : Fx V X y cc nL ret R) {i : Nat} {v : Int32} (hc : Cond.constant y.cls i v ∈ tb) (d : DC cc pc 3 n (.ldc_w i)) (kk : Wm V X nL N σ k z n lv (.int v :: st)) : Wm V X nL N σ k z pc lv (st) := by
  obtain ⟨d, rfl⟩ := d
  exact fun H locs ls h1 h2 h3 => lv_ldcw F.e F.b F.own (F.ts _ hc) d (kk H locs ls h1 h2 h3)
theorem m_ldc2 (F : Fx V X y cc nL ret R) {i : Nat} {v : Int64} (hc : Cond.constantLong y.cls i v ∈ tb) (d : DC cc pc 3 n (.ldc2_w i)) (kk : Wm V X nL N σ k z n lv (.long v :: st)) : Wm V X nL N σ k z pc lv (st) := by
  obtain ⟨d, rfl⟩ := d
  exact fun H locs ls h1 h2 h3 => lv_ldc2 F.e F.b F.own (F.ts _ hc) d (kk H locs ls h1 h2 h3)
theorem m_iload_n (F : Fx V X y cc nL ret R) {i : Fin 4} {x : Int32} (hl : lvg lv (i : Nat) = some (.int x)) (d : DC cc pc 1 n (.iload_n i)) (kk : Wm V X nL N σ k z n lv (.int x :: st)) : Wm V X nL N σ k z pc lv (st) := by
  obtain ⟨d, rfl⟩ := d
  exact fun H locs ls h1 h2 h3 => lv_iload_n F.e F.b d rfl (lvg_has h3 hl) (kk H locs ls h1 h2 h3)
theorem m_iload (F : Fx V X y cc nL ret R) {i : Nat} {x : Int32} (hl : lvg lv i = some (.int x)) (d : DC cc pc 2 n (.iload i)) (kk : Wm V X nL N σ k z n lv (.int x :: st)) : Wm V X nL N σ k z pc lv (st) := by
  obtain ⟨d, rfl⟩ := d
  exact fun H locs ls h1 h2 h3 => lv_iload F.e F.b d (lvg_has h3 hl) (kk H locs ls h1 h2 h3)
theorem m_lload_n (F : Fx V X y cc nL ret R) {i : Fin 4} {x : Int64} (hl : lvg lv (i : Nat) = some (.long x)) (d : DC cc pc 1 n (.lload_n i)) (kk : Wm V X nL N σ k z n lv (.long x :: st)) : Wm V X nL N σ k z pc lv (st) := by
  obtain ⟨d, rfl⟩ := d
  exact fun H locs ls h1 h2 h3 => lv_lload_n F.e F.b d rfl (lvg_has h3 hl) (kk H locs ls h1 h2 h3)
theorem m_lload (F : Fx V X y cc nL ret R) {i : Nat} {x : Int64} (hl : lvg lv i = some (.long x)) (d : DC cc pc 2 n (.lload i)) (kk : Wm V X nL N σ k z n lv (.long x :: st)) : Wm V X nL N σ k z pc lv (st) := by
  obtain ⟨d, rfl⟩ := d
  exact fun H locs ls h1 h2 h3 => lv_lload F.e F.b d (lvg_has h3 hl) (kk H locs ls h1 h2 h3)
theorem m_aload_n (F : Fx V X y cc nL ret R) {i : Fin 4} {x : Nat} (hl : lvg lv (i : Nat) = some (.ref x)) (d : DC cc pc 1 n (.aload_n i)) (kk : Wm V X nL N σ k z n lv (.ref x :: st)) : Wm V X nL N σ k z pc lv (st) := by
  obtain ⟨d, rfl⟩ := d
  exact fun H locs ls h1 h2 h3 => lv_aload_n F.e F.b d rfl (lvg_has h3 hl) (kk H locs ls h1 h2 h3)
theorem m_aload (F : Fx V X y cc nL ret R) {i : Nat} {x : Nat} (hl : lvg lv i = some (.ref x)) (d : DC cc pc 2 n (.aload i)) (kk : Wm V X nL N σ k z n lv (.ref x :: st)) : Wm V X nL N σ k z pc lv (st) := by
  obtain ⟨d, rfl⟩ := d
  exact fun H locs ls h1 h2 h3 => lv_aload F.e F.b d (lvg_has h3 hl) (kk H locs ls h1 h2 h3)
theorem m_aload_nN (F : Fx V X y cc nL ret R) {i : Fin 4} (hl : lvg lv (i : Nat) = some .null) (d : DC cc pc 1 n (.aload_n i)) (kk : Wm V X nL N σ k z n lv (.null :: st)) : Wm V X nL N σ k z pc lv (st) := by
  obtain ⟨d, rfl⟩ := d
  exact fun H locs ls h1 h2 h3 => lv_aload_nN F.e F.b d rfl (lvg_has h3 hl) (kk H locs ls h1 h2 h3)
theorem m_aloadN (F : Fx V X y cc nL ret R) {i : Nat} (hl : lvg lv i = some .null) (d : DC cc pc 2 n (.aload i)) (kk : Wm V X nL N σ k z n lv (.null :: st)) : Wm V X nL N σ k z pc lv (st) := by
  obtain ⟨d, rfl⟩ := d
  exact fun H locs ls h1 h2 h3 => lv_aloadN F.e F.b d (lvg_has h3 hl) (kk H locs ls h1 h2 h3)
theorem m_istore_n (F : Fx V X y cc nL ret R) {i : Fin 4} {x : Int32} {lv' : List (Nat × Value)} (d : DC cc pc 1 n (.istore_n i)) (hn : (i : Nat) < nL) (hl : lvs1 lv (i : Nat) (Value.int x) = lv') (kk : Wm V X nL N σ k z n lv' st) : Wm V X nL N σ k z pc lv (Value.int x :: st) := by
  obtain ⟨d, rfl⟩ := d
  exact fun H locs ls h1 h2 h3 => lv_istore_n F.e F.b d rfl h3 hn hl (fun ls h3 => kk H locs ls h1 h2 h3)
theorem m_istore (F : Fx V X y cc nL ret R) {i : Nat} {x : Int32} {lv' : List (Nat × Value)} (d : DC cc pc 2 n (.istore i)) (hn : (i : Nat) < nL) (hl : lvs1 lv (i : Nat) (Value.int x) = lv') (kk : Wm V X nL N σ k z n lv' st) : Wm V X nL N σ k z pc lv (Value.int x :: st) := by
  obtain ⟨d, rfl⟩ := d
  exact fun H locs ls h1 h2 h3 => lv_istore F.e F.b d h3 hn hl (fun ls h3 => kk H locs ls h1 h2 h3)
theorem m_lstore_n (F : Fx V X y cc nL ret R) {i : Fin 4} {x : Int64} {lv' : List (Nat × Value)} (d : DC cc pc 1 n (.lstore_n i)) (hn : (i : Nat) + 1 < nL) (hl : lvs2 lv (i : Nat) (Value.long x) = lv') (kk : Wm V X nL N σ k z n lv' st) : Wm V X nL N σ k z pc lv (Value.long x :: st) := by
  obtain ⟨d, rfl⟩ := d
  exact fun H locs ls h1 h2 h3 => lv_lstore_n F.e F.b d rfl h3 hn hl (fun ls h3 => kk H locs ls h1 h2 h3)
theorem m_lstore (F : Fx V X y cc nL ret R) {i : Nat} {x : Int64} {lv' : List (Nat × Value)} (d : DC cc pc 2 n (.lstore i)) (hn : (i : Nat) + 1 < nL) (hl : lvs2 lv (i : Nat) (Value.long x) = lv') (kk : Wm V X nL N σ k z n lv' st) : Wm V X nL N σ k z pc lv (Value.long x :: st) := by
  obtain ⟨d, rfl⟩ := d
  exact fun H locs ls h1 h2 h3 => lv_lstore F.e F.b d h3 hn hl (fun ls h3 => kk H locs ls h1 h2 h3)
theorem m_astore_n (F : Fx V X y cc nL ret R) {i : Fin 4} {x : Nat} {lv' : List (Nat × Value)} (d : DC cc pc 1 n (.astore_n i)) (hn : (i : Nat) < nL) (hl : lvs1 lv (i : Nat) (Value.ref x) = lv') (kk : Wm V X nL N σ k z n lv' st) : Wm V X nL N σ k z pc lv (Value.ref x :: st) := by
  obtain ⟨d, rfl⟩ := d
  exact fun H locs ls h1 h2 h3 => lv_astore_n F.e F.b d rfl h3 hn hl (fun ls h3 => kk H locs ls h1 h2 h3)
theorem m_astore (F : Fx V X y cc nL ret R) {i : Nat} {x : Nat} {lv' : List (Nat × Value)} (d : DC cc pc 2 n (.astore i)) (hn : (i : Nat) < nL) (hl : lvs1 lv (i : Nat) (Value.ref x) = lv') (kk : Wm V X nL N σ k z n lv' st) : Wm V X nL N σ k z pc lv (Value.ref x :: st) := by
  obtain ⟨d, rfl⟩ := d
  exact fun H locs ls h1 h2 h3 => lv_astore F.e F.b d h3 hn hl (fun ls h3 => kk H locs ls h1 h2 h3)
theorem m_astore_nN (F : Fx V X y cc nL ret R) {i : Fin 4} {lv' : List (Nat × Value)} (d : DC cc pc 1 n (.astore_n i)) (hn : (i : Nat) < nL) (hl : lvs1 lv (i : Nat) (Value.null) = lv') (kk : Wm V X nL N σ k z n lv' st) : Wm V X nL N σ k z pc lv (Value.null :: st) := by
  obtain ⟨d, rfl⟩ := d
  exact fun H locs ls h1 h2 h3 => lv_astore_nN F.e F.b d rfl h3 hn hl (fun ls h3 => kk H locs ls h1 h2 h3)
theorem m_astoreN (F : Fx V X y cc nL ret R) {i : Nat} {lv' : List (Nat × Value)} (d : DC cc pc 2 n (.astore i)) (hn : (i : Nat) < nL) (hl : lvs1 lv (i : Nat) (Value.null) = lv') (kk : Wm V X nL N σ k z n lv' st) : Wm V X nL N σ k z pc lv (Value.null :: st) := by
  obtain ⟨d, rfl⟩ := d
  exact fun H locs ls h1 h2 h3 => lv_astoreN F.e F.b d h3 hn hl (fun ls h3 => kk H locs ls h1 h2 h3)
theorem m_iinc (F : Fx V X y cc nL ret R) {i : Nat} {w : Int} {x v : Int32} {lv' : List (Nat × Value)} (d : DC cc pc 3 n (.iinc i w)) (hx : lvg lv i = some (.int x)) (hv : x + Int32.ofInt w = v) (hn : i < nL) (hl : lvs1 lv i (.int v) = lv') (kk : Wm V X nL N σ k z n lv' st) : Wm V X nL N σ k z pc lv st := by
  obtain ⟨d, rfl⟩ := d
  intro H locs ls h1 h2 h3
  obtain ⟨k0, hk⟩ := lvg_ex h3 hx
  exact lv_iinc F.e F.b d h3 hk hv hn hl (fun ls h3 => kk H locs ls h1 h2 h3)
theorem m_iadd (F : Fx V X y cc nL ret R) {x w : Int32} (d : DC cc pc 1 n (.iadd)) (kk : Wm V X nL N σ k z n lv (.int (x + w) :: st)) : Wm V X nL N σ k z pc lv (.int w :: .int x :: st) := by
  obtain ⟨d, rfl⟩ := d
  exact fun H locs ls h1 h2 h3 => lv_iadd F.e F.b d (kk H locs ls h1 h2 h3)
theorem m_isub (F : Fx V X y cc nL ret R) {x w : Int32} (d : DC cc pc 1 n (.isub)) (kk : Wm V X nL N σ k z n lv (.int (x - w) :: st)) : Wm V X nL N σ k z pc lv (.int w :: .int x :: st) := by
  obtain ⟨d, rfl⟩ := d
  exact fun H locs ls h1 h2 h3 => lv_isub F.e F.b d (kk H locs ls h1 h2 h3)
theorem m_imul (F : Fx V X y cc nL ret R) {x w : Int32} (d : DC cc pc 1 n (.imul)) (kk : Wm V X nL N σ k z n lv (.int (x * w) :: st)) : Wm V X nL N σ k z pc lv (.int w :: .int x :: st) := by
  obtain ⟨d, rfl⟩ := d
  exact fun H locs ls h1 h2 h3 => lv_imul F.e F.b d (kk H locs ls h1 h2 h3)
theorem m_iand (F : Fx V X y cc nL ret R) {x w : Int32} (d : DC cc pc 1 n (.iand)) (kk : Wm V X nL N σ k z n lv (.int (x &&& w) :: st)) : Wm V X nL N σ k z pc lv (.int w :: .int x :: st) := by
  obtain ⟨d, rfl⟩ := d
  exact fun H locs ls h1 h2 h3 => lv_iand F.e F.b d (kk H locs ls h1 h2 h3)
theorem m_ior (F : Fx V X y cc nL ret R) {x w : Int32} (d : DC cc pc 1 n (.ior)) (kk : Wm V X nL N σ k z n lv (.int (x ||| w) :: st)) : Wm V X nL N σ k z pc lv (.int w :: .int x :: st) := by
  obtain ⟨d, rfl⟩ := d
  exact fun H locs ls h1 h2 h3 => lv_ior F.e F.b d (kk H locs ls h1 h2 h3)
theorem m_ixor (F : Fx V X y cc nL ret R) {x w : Int32} (d : DC cc pc 1 n (.ixor)) (kk : Wm V X nL N σ k z n lv (.int (x ^^^ w) :: st)) : Wm V X nL N σ k z pc lv (.int w :: .int x :: st) := by
  obtain ⟨d, rfl⟩ := d
  exact fun H locs ls h1 h2 h3 => lv_ixor F.e F.b d (kk H locs ls h1 h2 h3)
theorem m_ladd (F : Fx V X y cc nL ret R) {x w : Int64} (d : DC cc pc 1 n (.ladd)) (kk : Wm V X nL N σ k z n lv (.long (x + w) :: st)) : Wm V X nL N σ k z pc lv (.long w :: .long x :: st) := by
  obtain ⟨d, rfl⟩ := d
  exact fun H locs ls h1 h2 h3 => lv_ladd F.e F.b d (kk H locs ls h1 h2 h3)
theorem m_lsub (F : Fx V X y cc nL ret R) {x w : Int64} (d : DC cc pc 1 n (.lsub)) (kk : Wm V X nL N σ k z n lv (.long (x - w) :: st)) : Wm V X nL N σ k z pc lv (.long w :: .long x :: st) := by
  obtain ⟨d, rfl⟩ := d
  exact fun H locs ls h1 h2 h3 => lv_lsub F.e F.b d (kk H locs ls h1 h2 h3)
theorem m_lmul (F : Fx V X y cc nL ret R) {x w : Int64} (d : DC cc pc 1 n (.lmul)) (kk : Wm V X nL N σ k z n lv (.long (x * w) :: st)) : Wm V X nL N σ k z pc lv (.long w :: .long x :: st) := by
  obtain ⟨d, rfl⟩ := d
  exact fun H locs ls h1 h2 h3 => lv_lmul F.e F.b d (kk H locs ls h1 h2 h3)
theorem m_land (F : Fx V X y cc nL ret R) {x w : Int64} (d : DC cc pc 1 n (.land)) (kk : Wm V X nL N σ k z n lv (.long (x &&& w) :: st)) : Wm V X nL N σ k z pc lv (.long w :: .long x :: st) := by
  obtain ⟨d, rfl⟩ := d
  exact fun H locs ls h1 h2 h3 => lv_land F.e F.b d (kk H locs ls h1 h2 h3)
theorem m_lor (F : Fx V X y cc nL ret R) {x w : Int64} (d : DC cc pc 1 n (.lor)) (kk : Wm V X nL N σ k z n lv (.long (x ||| w) :: st)) : Wm V X nL N σ k z pc lv (.long w :: .long x :: st) := by
  obtain ⟨d, rfl⟩ := d
  exact fun H locs ls h1 h2 h3 => lv_lor F.e F.b d (kk H locs ls h1 h2 h3)
theorem m_lxor (F : Fx V X y cc nL ret R) {x w : Int64} (d : DC cc pc 1 n (.lxor)) (kk : Wm V X nL N σ k z n lv (.long (x ^^^ w) :: st)) : Wm V X nL N σ k z pc lv (.long w :: .long x :: st) := by
  obtain ⟨d, rfl⟩ := d
  exact fun H locs ls h1 h2 h3 => lv_lxor F.e F.b d (kk H locs ls h1 h2 h3)
theorem m_idiv (F : Fx V X y cc nL ret R) {x w : Int32} (hne : ¬ w = 0) (d : DC cc pc 1 n (.idiv)) (kk : Wm V X nL N σ k z n lv (.int (x / w) :: st)) : Wm V X nL N σ k z pc lv (.int w :: .int x :: st) := by
  obtain ⟨d, rfl⟩ := d
  exact fun H locs ls h1 h2 h3 => lv_idiv F.e F.b d hne (kk H locs ls h1 h2 h3)
theorem m_irem (F : Fx V X y cc nL ret R) {x w : Int32} (hne : ¬ w = 0) (d : DC cc pc 1 n (.irem)) (kk : Wm V X nL N σ k z n lv (.int (x - x / w * w) :: st)) : Wm V X nL N σ k z pc lv (.int w :: .int x :: st) := by
  obtain ⟨d, rfl⟩ := d
  exact fun H locs ls h1 h2 h3 => lv_irem F.e F.b d hne (kk H locs ls h1 h2 h3)
theorem m_ldiv (F : Fx V X y cc nL ret R) {x w : Int64} (hne : ¬ w = 0) (d : DC cc pc 1 n (.ldiv)) (kk : Wm V X nL N σ k z n lv (.long (x / w) :: st)) : Wm V X nL N σ k z pc lv (.long w :: .long x :: st) := by
  obtain ⟨d, rfl⟩ := d
  exact fun H locs ls h1 h2 h3 => lv_ldiv F.e F.b d hne (kk H locs ls h1 h2 h3)
theorem m_lrem (F : Fx V X y cc nL ret R) {x w : Int64} (hne : ¬ w = 0) (d : DC cc pc 1 n (.lrem)) (kk : Wm V X nL N σ k z n lv (.long (x - x / w * w) :: st)) : Wm V X nL N σ k z pc lv (.long w :: .long x :: st) := by
  obtain ⟨d, rfl⟩ := d
  exact fun H locs ls h1 h2 h3 => lv_lrem F.e F.b d hne (kk H locs ls h1 h2 h3)
theorem m_ineg (F : Fx V X y cc nL ret R) {x : Int32} (d : DC cc pc 1 n (.ineg)) (kk : Wm V X nL N σ k z n lv (.int (-x) :: st)) : Wm V X nL N σ k z pc lv (.int x :: st) := by
  obtain ⟨d, rfl⟩ := d
  exact fun H locs ls h1 h2 h3 => lv_ineg F.e F.b d (kk H locs ls h1 h2 h3)
theorem m_lneg (F : Fx V X y cc nL ret R) {x : Int64} (d : DC cc pc 1 n (.lneg)) (kk : Wm V X nL N σ k z n lv (.long (-x) :: st)) : Wm V X nL N σ k z pc lv (.long x :: st) := by
  obtain ⟨d, rfl⟩ := d
  exact fun H locs ls h1 h2 h3 => lv_lneg F.e F.b d (kk H locs ls h1 h2 h3)
theorem m_ishl (F : Fx V X y cc nL ret R) {x w : Int32} (d : DC cc pc 1 n (.ishl)) (kk : Wm V X nL N σ k z n lv (.int (x <<< (w &&& 31)) :: st)) : Wm V X nL N σ k z pc lv (.int w :: .int x :: st) := by
  obtain ⟨d, rfl⟩ := d
  exact fun H locs ls h1 h2 h3 => lv_ishl F.e F.b d (kk H locs ls h1 h2 h3)
theorem m_ishr (F : Fx V X y cc nL ret R) {x w : Int32} (d : DC cc pc 1 n (.ishr)) (kk : Wm V X nL N σ k z n lv (.int (x >>> (w &&& 31)) :: st)) : Wm V X nL N σ k z pc lv (.int w :: .int x :: st) := by
  obtain ⟨d, rfl⟩ := d
  exact fun H locs ls h1 h2 h3 => lv_ishr F.e F.b d (kk H locs ls h1 h2 h3)
theorem m_lshl (F : Fx V X y cc nL ret R) {x : Int64} {w : Int32} (d : DC cc pc 1 n (.lshl)) (kk : Wm V X nL N σ k z n lv (.long (x <<< (w.toInt64 &&& 63)) :: st)) : Wm V X nL N σ k z pc lv (.int w :: .long x :: st) := by
  obtain ⟨d, rfl⟩ := d
  exact fun H locs ls h1 h2 h3 => lv_lshl F.e F.b d rfl (kk H locs ls h1 h2 h3)
theorem m_lshr (F : Fx V X y cc nL ret R) {x : Int64} {w : Int32} (d : DC cc pc 1 n (.lshr)) (kk : Wm V X nL N σ k z n lv (.long (x >>> (w.toInt64 &&& 63)) :: st)) : Wm V X nL N σ k z pc lv (.int w :: .long x :: st) := by
  obtain ⟨d, rfl⟩ := d
  exact fun H locs ls h1 h2 h3 => lv_lshr F.e F.b d rfl (kk H locs ls h1 h2 h3)
theorem m_i2l (F : Fx V X y cc nL ret R) {x : Int32} (d : DC cc pc 1 n (.i2l)) (kk : Wm V X nL N σ k z n lv (.long x.toInt64 :: st)) : Wm V X nL N σ k z pc lv (.int x :: st) := by
  obtain ⟨d, rfl⟩ := d
  exact fun H locs ls h1 h2 h3 => lv_i2l F.e F.b d rfl (kk H locs ls h1 h2 h3)
theorem m_l2i (F : Fx V X y cc nL ret R) {x : Int64} (d : DC cc pc 1 n (.l2i)) (kk : Wm V X nL N σ k z n lv (.int x.toInt32 :: st)) : Wm V X nL N σ k z pc lv (.long x :: st) := by
  obtain ⟨d, rfl⟩ := d
  exact fun H locs ls h1 h2 h3 => lv_l2i F.e F.b d rfl (kk H locs ls h1 h2 h3)
theorem m_i2b (F : Fx V X y cc nL ret R) {x : Int32} (d : DC cc pc 1 n (.i2b)) (kk : Wm V X nL N σ k z n lv (.int x.toInt8.toInt32 :: st)) : Wm V X nL N σ k z pc lv (.int x :: st) := by
  obtain ⟨d, rfl⟩ := d
  exact fun H locs ls h1 h2 h3 => lv_i2b F.e F.b d rfl (kk H locs ls h1 h2 h3)
theorem m_lcmp (F : Fx V X y cc nL ret R) {x w : Int64} (d : DC cc pc 1 n (.lcmp)) (kk : Wm V X nL N σ k z n lv (.int (lg_cmp x w) :: st)) : Wm V X nL N σ k z pc lv (.long w :: .long x :: st) := by
  obtain ⟨d, rfl⟩ := d
  exact fun H locs ls h1 h2 h3 => W.lcmp F.e F.b d (kk H locs ls h1 h2 h3)
theorem m_dup (F : Fx V X y cc nL ret R) {a : Value} (ha : a.category = 1) (d : DC cc pc 1 n (.dup)) (kk : Wm V X nL N σ k z n lv (a :: a :: st)) : Wm V X nL N σ k z pc lv (a :: st) := by
  obtain ⟨d, rfl⟩ := d
  exact fun H locs ls h1 h2 h3 => lv_dup F.e F.b d ha (kk H locs ls h1 h2 h3)
theorem m_pop (F : Fx V X y cc nL ret R) {a : Value} (ha : a.category = 1) (d : DC cc pc 1 n (.pop)) (kk : Wm V X nL N σ k z n lv (st)) : Wm V X nL N σ k z pc lv (a :: st) := by
  obtain ⟨d, rfl⟩ := d
  exact fun H locs ls h1 h2 h3 => lv_pop F.e F.b d ha (kk H locs ls h1 h2 h3)
theorem m_dup_x1 (F : Fx V X y cc nL ret R) {a b : Value} (ha : a.category = 1) (hb : b.category = 1) (d : DC cc pc 1 n (.dup_x1)) (kk : Wm V X nL N σ k z n lv (a :: b :: a :: st)) : Wm V X nL N σ k z pc lv (a :: b :: st) := by
  obtain ⟨d, rfl⟩ := d
  exact fun H locs ls h1 h2 h3 => lv_dup_x1 F.e F.b d ha hb (kk H locs ls h1 h2 h3)
theorem m_dup2_11 (F : Fx V X y cc nL ret R) {a b : Value} (ha : a.category = 1) (hb : b.category = 1) (d : DC cc pc 1 n (.dup2)) (kk : Wm V X nL N σ k z n lv (a :: b :: a :: b :: st)) : Wm V X nL N σ k z pc lv (a :: b :: st) := by
  obtain ⟨d, rfl⟩ := d
  exact fun H locs ls h1 h2 h3 => lv_dup2_11 F.e F.b d ha hb (kk H locs ls h1 h2 h3)
theorem m_dup2_2 (F : Fx V X y cc nL ret R) {a : Value} (ha : a.category = 2) (d : DC cc pc 1 n (.dup2)) (kk : Wm V X nL N σ k z n lv (a :: a :: st)) : Wm V X nL N σ k z pc lv (a :: st) := by
  obtain ⟨d, rfl⟩ := d
  exact fun H locs ls h1 h2 h3 => lv_dup2_2 F.e F.b d ha (kk H locs ls h1 h2 h3)
theorem m_pop2_2 (F : Fx V X y cc nL ret R) {a : Value} (ha : a.category = 2) (d : DC cc pc 1 n (.pop2)) (kk : Wm V X nL N σ k z n lv (st)) : Wm V X nL N σ k z pc lv (a :: st) := by
  obtain ⟨d, rfl⟩ := d
  exact fun H locs ls h1 h2 h3 => lv_pop2_2 F.e F.b d ha (kk H locs ls h1 h2 h3)
theorem m_if_eq (F : Fx V X y cc nL ret R) {x : Int32} {tgt : Nat} (d : DJ cc pc tgt n (.ifCond .eq)) (kt : x = 0 → Wm V X nL N σ k z tgt lv st) (kf : ¬ (x = 0) → Wm V X nL N σ k z n lv st) : Wm V X nL N σ k z pc lv (.int x :: st) := by
  obtain ⟨off, d, ht, rfl⟩ := d
  exact fun H locs ls h1 h2 h3 => lv_if_eq F.e F.b d ht (fun q => kt q H locs ls h1 h2 h3) (fun q => kf q H locs ls h1 h2 h3)
theorem m_icmp_eq (F : Fx V X y cc nL ret R) {x w : Int32} {tgt : Nat} (d : DJ cc pc tgt n (.if_icmp .eq)) (kt : x = w → Wm V X nL N σ k z tgt lv st) (kf : ¬ (x = w) → Wm V X nL N σ k z n lv st) : Wm V X nL N σ k z pc lv (.int w :: .int x :: st) := by
  obtain ⟨off, d, ht, rfl⟩ := d
  exact fun H locs ls h1 h2 h3 => lv_icmp_eq F.e F.b d ht (fun q => kt q H locs ls h1 h2 h3) (fun q => kf q H locs ls h1 h2 h3)
theorem m_if_ne (F : Fx V X y cc nL ret R) {x : Int32} {tgt : Nat} (d : DJ cc pc tgt n (.ifCond .ne)) (kt : ¬ x = 0 → Wm V X nL N σ k z tgt lv st) (kf : x = 0 → Wm V X nL N σ k z n lv st) : Wm V X nL N σ k z pc lv (.int x :: st) := by
  obtain ⟨off, d, ht, rfl⟩ := d
  exact fun H locs ls h1 h2 h3 => lv_if_ne F.e F.b d ht (fun q => kt q H locs ls h1 h2 h3) (fun q => kf q H locs ls h1 h2 h3)
theorem m_icmp_ne (F : Fx V X y cc nL ret R) {x w : Int32} {tgt : Nat} (d : DJ cc pc tgt n (.if_icmp .ne)) (kt : ¬ x = w → Wm V X nL N σ k z tgt lv st) (kf : x = w → Wm V X nL N σ k z n lv st) : Wm V X nL N σ k z pc lv (.int w :: .int x :: st) := by
  obtain ⟨off, d, ht, rfl⟩ := d
  exact fun H locs ls h1 h2 h3 => lv_icmp_ne F.e F.b d ht (fun q => kt q H locs ls h1 h2 h3) (fun q => kf q H locs ls h1 h2 h3)
theorem m_if_lt (F : Fx V X y cc nL ret R) {x : Int32} {tgt : Nat} (d : DJ cc pc tgt n (.ifCond .lt)) (kt : x < 0 → Wm V X nL N σ k z tgt lv st) (kf : ¬ (x < 0) → Wm V X nL N σ k z n lv st) : Wm V X nL N σ k z pc lv (.int x :: st) := by
  obtain ⟨off, d, ht, rfl⟩ := d
  exact fun H locs ls h1 h2 h3 => lv_if_lt F.e F.b d ht (fun q => kt q H locs ls h1 h2 h3) (fun q => kf q H locs ls h1 h2 h3)
theorem m_icmp_lt (F : Fx V X y cc nL ret R) {x w : Int32} {tgt : Nat} (d : DJ cc pc tgt n (.if_icmp .lt)) (kt : x < w → Wm V X nL N σ k z tgt lv st) (kf : ¬ (x < w) → Wm V X nL N σ k z n lv st) : Wm V X nL N σ k z pc lv (.int w :: .int x :: st) := by
  obtain ⟨off, d, ht, rfl⟩ := d
  exact fun H locs ls h1 h2 h3 => lv_icmp_lt F.e F.b d ht (fun q => kt q H locs ls h1 h2 h3) (fun q => kf q H locs ls h1 h2 h3)
theorem m_if_ge (F : Fx V X y cc nL ret R) {x : Int32} {tgt : Nat} (d : DJ cc pc tgt n (.ifCond .ge)) (kt : 0 ≤ x → Wm V X nL N σ k z tgt lv st) (kf : ¬ (0 ≤ x) → Wm V X nL N σ k z n lv st) : Wm V X nL N σ k z pc lv (.int x :: st) := by
  obtain ⟨off, d, ht, rfl⟩ := d
  exact fun H locs ls h1 h2 h3 => lv_if_ge F.e F.b d ht (fun q => kt q H locs ls h1 h2 h3) (fun q => kf q H locs ls h1 h2 h3)
theorem m_icmp_ge (F : Fx V X y cc nL ret R) {x w : Int32} {tgt : Nat} (d : DJ cc pc tgt n (.if_icmp .ge)) (kt : w ≤ x → Wm V X nL N σ k z tgt lv st) (kf : ¬ (w ≤ x) → Wm V X nL N σ k z n lv st) : Wm V X nL N σ k z pc lv (.int w :: .int x :: st) := by
  obtain ⟨off, d, ht, rfl⟩ := d
  exact fun H locs ls h1 h2 h3 => lv_icmp_ge F.e F.b d ht (fun q => kt q H locs ls h1 h2 h3) (fun q => kf q H locs ls h1 h2 h3)
theorem m_if_gt (F : Fx V X y cc nL ret R) {x : Int32} {tgt : Nat} (d : DJ cc pc tgt n (.ifCond .gt)) (kt : 0 < x → Wm V X nL N σ k z tgt lv st) (kf : ¬ (0 < x) → Wm V X nL N σ k z n lv st) : Wm V X nL N σ k z pc lv (.int x :: st) := by
  obtain ⟨off, d, ht, rfl⟩ := d
  exact fun H locs ls h1 h2 h3 => lv_if_gt F.e F.b d ht (fun q => kt q H locs ls h1 h2 h3) (fun q => kf q H locs ls h1 h2 h3)
theorem m_icmp_gt (F : Fx V X y cc nL ret R) {x w : Int32} {tgt : Nat} (d : DJ cc pc tgt n (.if_icmp .gt)) (kt : w < x → Wm V X nL N σ k z tgt lv st) (kf : ¬ (w < x) → Wm V X nL N σ k z n lv st) : Wm V X nL N σ k z pc lv (.int w :: .int x :: st) := by
  obtain ⟨off, d, ht, rfl⟩ := d
  exact fun H locs ls h1 h2 h3 => lv_icmp_gt F.e F.b d ht (fun q => kt q H locs ls h1 h2 h3) (fun q => kf q H locs ls h1 h2 h3)
theorem m_if_le (F : Fx V X y cc nL ret R) {x : Int32} {tgt : Nat} (d : DJ cc pc tgt n (.ifCond .le)) (kt : x ≤ 0 → Wm V X nL N σ k z tgt lv st) (kf : ¬ (x ≤ 0) → Wm V X nL N σ k z n lv st) : Wm V X nL N σ k z pc lv (.int x :: st) := by
  obtain ⟨off, d, ht, rfl⟩ := d
  exact fun H locs ls h1 h2 h3 => lv_if_le F.e F.b d ht (fun q => kt q H locs ls h1 h2 h3) (fun q => kf q H locs ls h1 h2 h3)
theorem m_icmp_le (F : Fx V X y cc nL ret R) {x w : Int32} {tgt : Nat} (d : DJ cc pc tgt n (.if_icmp .le)) (kt : x ≤ w → Wm V X nL N σ k z tgt lv st) (kf : ¬ (x ≤ w) → Wm V X nL N σ k z n lv st) : Wm V X nL N σ k z pc lv (.int w :: .int x :: st) := by
  obtain ⟨off, d, ht, rfl⟩ := d
  exact fun H locs ls h1 h2 h3 => lv_icmp_le F.e F.b d ht (fun q => kt q H locs ls h1 h2 h3) (fun q => kf q H locs ls h1 h2 h3)
theorem m_goto (F : Fx V X y cc nL ret R) {tgt : Nat} (d : DJ cc pc tgt n .goto) (kk : Wm V X nL N σ k z tgt lv st) : Wm V X nL N σ k z pc lv st := by
  obtain ⟨off, d, ht, rfl⟩ := d
  exact fun H locs ls h1 h2 h3 => lv_goto F.e F.b d ht (kk H locs ls h1 h2 h3)
theorem m_ifnullR (F : Fx V X y cc nL ret R) {x tgt : Nat} (d : DJ cc pc tgt n .ifnull) (kk : Wm V X nL N σ k z n lv st) : Wm V X nL N σ k z pc lv (.ref x :: st) := by
  obtain ⟨off, d, ht, rfl⟩ := d
  exact fun H locs ls h1 h2 h3 => lv_ifnull F.e F.b d (kk H locs ls h1 h2 h3)
theorem m_ifnullN (F : Fx V X y cc nL ret R) {tgt : Nat} (d : DJ cc pc tgt n .ifnull) (kk : Wm V X nL N σ k z tgt lv st) : Wm V X nL N σ k z pc lv (.null :: st) := by
  obtain ⟨off, d, ht, rfl⟩ := d
  exact fun H locs ls h1 h2 h3 => lv_ifnullN F.e F.b d ht (kk H locs ls h1 h2 h3)
theorem m_ifnonnullR (F : Fx V X y cc nL ret R) {x tgt : Nat} (d : DJ cc pc tgt n .ifnonnull) (kk : Wm V X nL N σ k z tgt lv st) : Wm V X nL N σ k z pc lv (.ref x :: st) := by
  obtain ⟨off, d, ht, rfl⟩ := d
  exact fun H locs ls h1 h2 h3 => lv_ifnonnull F.e F.b d ht (kk H locs ls h1 h2 h3)
theorem m_ifnonnullN (F : Fx V X y cc nL ret R) {tgt : Nat} (d : DJ cc pc tgt n .ifnonnull) (kk : Wm V X nL N σ k z n lv st) : Wm V X nL N σ k z pc lv (.null :: st) := by
  obtain ⟨off, d, ht, rfl⟩ := d
  exact fun H locs ls h1 h2 h3 => lv_ifnonnullN F.e F.b d (kk H locs ls h1 h2 h3)
theorem m_tableOut (F : Fx V X y cc nL ret R) {dflt lo hi : Int} {offs : Array Int} {len : Nat} {x : Int32} {tgt : Nat} (d : decode cc pc = .ok (.tableswitch dflt lo hi offs, len)) (h : x.toInt < lo ∨ hi < x.toInt) (ht : (pc : Int) + dflt = (tgt : Int)) (kk : Wm V X nL N σ k z tgt lv st) : Wm V X nL N σ k z pc lv (.int x :: st) :=
  fun H locs ls h1 h2 h3 => lv_tableOut F.e F.b d h ht (kk H locs ls h1 h2 h3)
theorem m_tableIn (F : Fx V X y cc nL ret R) {dflt lo hi : Int} {offs : Array Int} {len : Nat} {x : Int32} {off : Int} {tgt : Nat} (d : decode cc pc = .ok (.tableswitch dflt lo hi offs, len)) (g1 : ¬ x.toInt < lo) (g2 : ¬ hi < x.toInt) (ho : offs[(x.toInt - lo).toNat]? = some off) (ht : (pc : Int) + off = (tgt : Int)) (kk : Wm V X nL N σ k z tgt lv st) : Wm V X nL N σ k z pc lv (.int x :: st) :=
  fun H locs ls h1 h2 h3 => lv_tableIn F.e F.b d g1 g2 ho ht (kk H locs ls h1 h2 h3)
theorem m_lookup (F : Fx V X y cc nL ret R) {dflt : Int} {ps : Array (Int × Int)} {len : Nat} {x : Int32} {off : Int} {tgt : Nat} (d : decode cc pc = .ok (.lookupswitch dflt ps, len)) (hp : (ps.toList.zip (ps.toList.drop 1)).all (fun (a, next) => a.1 < next.1) = true) (ho : Op.lookupswitch.offset ps.toList dflt x.toInt = off) (ht : (pc : Int) + off = (tgt : Int)) (kk : Wm V X nL N σ k z tgt lv st) : Wm V X nL N σ k z pc lv (.int x :: st) :=
  fun H locs ls h1 h2 h3 => lv_lookup F.e F.b d hp ho ht (kk H locs ls h1 h2 h3)
-- fields
def FL (own : String) (index ci j : Nat) : Prop := ∃ (C : String) (T : u_T) (Nn : Nat), classes[ci]? = some (C, T, Nn) ∧ j < Nn ∧ (∀ w ∈ u_ws C T Nn, w ∈ tb) ∧ Cond.fieldLink own index C (T j).2.1 (T j).2.2.1 ∈ tb ∧ (T j).1 = C
theorem m_get (F : Fx V X y cc nL ret R) {index ci j a : Nat} {fs : List Value} {v : Value} (d : DC cc pc 3 n (.getfield index)) (fl : FL y.cls index ci j) (h : σ a = some (.inr (ci, fs))) (hv : fs[j]? = some v) (kk : Wm V X nL N σ k z n lv (v :: st)) : Wm V X nL N σ k z pc lv (.ref a :: st) := by
  obtain ⟨d, rfl⟩ := d
  obtain ⟨C, T, Nn, hc, hj, hin, hlk, hT⟩ := fl
  intro H locs ls h1 h2 h3
  exact va_get (ref := C) F.e F.b F.ts hin F.own F.ku.1 (h1.one h) 0 rfl hc j hj (F.ts _ hlk) (fun x hx => by rw [hT] at hx; exact hx) hv d (kk H locs ls h1 h2 h3)
def FP (own : String) (index ci j : Nat) (fin : Bool) (ty : FieldType) : Prop := ∃ (C : String) (T : u_T) (Nn : Nat) (ty0 : Nat → FieldType), classes[ci]? = some (C, T, Nn) ∧ j < Nn ∧ (∀ w ∈ u_ws C T Nn, w ∈ tb) ∧ Cond.fieldLink own index C (T j).2.1 (T j).2.2.1 ∈ tb ∧ (T j).1 = C ∧ (T j).2.2.2 = fin ∧ parseFieldDescriptor (T j).2.2.1 = some ty ∧ (∀ k, k < Nn → parseFieldDescriptor (T k).2.2.1 = some (ty0 k)) ∧ (∀ a, a < Nn → ∀ b, b < Nn → a ≠ b → (T a).2.1 ≠ (T b).2.1)
theorem locs_app {V : VX} {locs : List Loc} {a i : Nat} (h : ∀ q ∈ locs, V.2.2.size ≤ q.base) (ha : V.2.2.size ≤ a) : ∀ q ∈ locs ++ [(⟨a, i⟩ : Loc)], V.2.2.size ≤ q.base := by
  intro q hq
  rcases List.mem_append.mp hq with h1 | h1
  · exact h q h1
  · rw [List.mem_singleton.mp h1]; exact ha
theorem m_put (F : Fx V X y cc nL ret R) {index ci j a : Nat} {fs fs' : List Value} {v : Value} {ty : FieldType} {σ' : Mem} (d : DC cc pc 3 n (.putfield index)) (fp : FP y.cls index ci j false ty) (h : σ a = some (.inr (ci, fs))) (hn : narrow ty v = v) (hfit : fits ty v = true) (hl : j < fs.length) (hf : fs.set j v = fs') (hσ : va_up σ a (some (.inr (ci, fs'))) = σ') (kk : Wm V X nL N σ' k z n lv st) : Wm V X nL N σ k z pc lv (v :: .ref a :: st) := by
  obtain ⟨d, rfl⟩ := d
  subst hσ; subst hf
  obtain ⟨C, T, Nn, ty0, hc, hj, hin, hlk, hT, hfin, hd, hty, hnm⟩ := fp
  intro H locs ls h1 h2 h3
  have hK := F.ku.1
  have hap := va_apart (own := y.cls) F.ts hin ty0 hty hnm hK hc
  obtain ⟨r, g1, cell, q1, q2, q3, q4⟩ := h1.at h
  have hr : r = (C, T, Nn) := Option.some.inj (g1.symm.trans hc)
  subst hr
  obtain ⟨hS, hfc, kC, hkC, hkind⟩ := hK.1 ci _ hc
  obtain ⟨cf, kf, fi, f, hi, hsl⟩ := hS j hj
  have hlay := F.ts _ (hin _ (u_in_lay hj))
  unfold u_lay at hlay
  rw [if_neg (by rw [hfin]; decide)] at hlay
  have hst := (u_facts hfc hkC (u_lays F.ts hin hj) hi).1
  have h6 := u_store hfc hkC hkind hlay hi hd hn hfit
  refine W.putK F.e F.b (f := f) ⟨F.own, F.ts _ hlk, ⟨_, _, _, by rw [hT] at hi; exact hi⟩, hst⟩ (by rw [q2]; exact h6) q1 q3 (by rw [hsl]; exact k2_hasslot (q4 j hj)) rfl rfl d fun H' e1 e2 e3 => ?_
  rw [hsl] at e1
  exact kk H' _ ls (h1.put h e2 e3 ⟨_, hc, t_OB.to (V := updV (vp_V fs) j v) ⟨_, e1, q2, q3, t_set q4 hap hj v⟩ (fun i _ => vp_updV_set hl v i)⟩) (locs_app h2 (h1.lt h).1) h3
theorem m_putF (F : Fx V X y cc nL ret R) {index ci j a : Nat} {fs fs' : List Value} {v : Value} {ty : FieldType} {σ' : Mem} (d : DC cc pc 3 n (.putfield index)) (fp : FP y.cls index ci j true ty) (hci : (classes[ci]?).map (·.1) = some y.cls) (hin2 : y.name = "<init>") (h : σ a = some (.inr (ci, fs))) (hn : narrow ty v = v) (hfit : fits ty v = true) (hl : j < fs.length) (hf : fs.set j v = fs') (hσ : va_up σ a (some (.inr (ci, fs'))) = σ') (kk : Wm V X nL N σ' k z n lv st) : Wm V X nL N σ k z pc lv (v :: .ref a :: st) := by
  obtain ⟨d, rfl⟩ := d
  subst hσ; subst hf
  obtain ⟨C, T, Nn, ty0, hc, hj, hin, hlk, hT, hfin, hd, hty, hnm⟩ := fp
  have hC : C = y.cls := by rw [hc] at hci; exact Option.some.inj hci
  intro H locs ls h1 h2 h3
  have hK := F.ku.1
  have hap := va_apart (own := y.cls) F.ts hin ty0 hty hnm hK hc
  obtain ⟨r, g1, cell, q1, q2, q3, q4⟩ := h1.at h
  have hr : r = (C, T, Nn) := Option.some.inj (g1.symm.trans hc)
  subst hr
  obtain ⟨hS, hfc, kC, hkC, hkind⟩ := hK.1 ci _ hc
  obtain ⟨cf, kf, fi, f, hi, hsl⟩ := hS j hj
  have hlay := F.ts _ (hin _ (u_in_lay hj))
  unfold u_lay at hlay
  rw [if_pos hfin] at hlay
  have hst := (u_facts hfc hkC (u_lays F.ts hin hj) hi).1
  have hcf : (x_m X).cls = cf := by
    obtain ⟨_, _, c', _, _, _, -, -, hf', -, -, -, hown2, -⟩ := Cond.laysFinal_spec hlay
    have e1 : c' = cf := by have := hi.symm.trans hf'; simp at this; exact this.1.symm
    rw [hT, hC] at hown2
    rw [← e1]; exact Option.some.inj (F.own.symm.trans hown2)
  have h6 := u_fits hfc hkC hkind (Or.inr hlay) hi hd hn hfit
  refine W.putFinK F.e F.b F.own (F.ts _ hlk) (by rw [hT] at hi; exact hi) hst hcf (by rw [F.nm]; exact hin2) (by rw [q2]; exact h6) q1 q3 (by rw [hsl]; exact k2_hasslot (q4 j hj)) rfl rfl d fun H' e1 e2 e3 => ?_
  rw [hsl] at e1
  exact kk H' _ ls (h1.put h e2 e3 ⟨_, hc, t_OB.to (V := updV (vp_V fs) j v) ⟨_, e1, q2, q3, t_set q4 hap hj v⟩ (fun i _ => vp_updV_set hl v i)⟩) (locs_app h2 (h1.lt h).1) h3
-- arrays
theorem m_iald (F : Fx V X y cc nL ret R) {a len j : Nat} {f : Nat → Int32} {i : Int32} (d : DC cc pc 1 n .iaload) (h : σ a = some (aI V len f)) (hj : i.toNatClampNeg = j) (hin : vp_in i len) (kk : Wm V X nL N σ k z n lv (.int (f j) :: st)) : Wm V X nL N σ k z pc lv (.int i :: .ref a :: st) := by
  obtain ⟨d, rfl⟩ := d
  subst hj
  exact fun H locs ls h1 h2 h3 => va_iald F.e F.b F.ku.1 (h1.one h) 0 0 rfl rfl hin d (kk H locs ls h1 h2 h3)
theorem m_bald (F : Fx V X y cc nL ret R) {a len j : Nat} {f : Nat → Int32} {i : Int32} (d : DC cc pc 1 n .baload) (h : σ a = some (aB V len f)) (hj : i.toNatClampNeg = j) (hin : vp_in i len) (kk : Wm V X nL N σ k z n lv (.int (f j) :: st)) : Wm V X nL N σ k z pc lv (.int i :: .ref a :: st) := by
  obtain ⟨d, rfl⟩ := d
  subst hj
  exact fun H locs ls h1 h2 h3 => va_bald F.e F.b F.ku.1 (h1.one h) 0 2 rfl rfl hin d (kk H locs ls h1 h2 h3)
theorem m_zald (F : Fx V X y cc nL ret R) {a len j : Nat} {f : Nat → Int32} {i : Int32} (d : DC cc pc 1 n .baload) (h : σ a = some (aZ V len f)) (hj : i.toNatClampNeg = j) (hin : vp_in i len) (kk : Wm V X nL N σ k z n lv (.int (f j) :: st)) : Wm V X nL N σ k z pc lv (.int i :: .ref a :: st) := by
  obtain ⟨d, rfl⟩ := d
  subst hj
  exact fun H locs ls h1 h2 h3 => va_zald F.e F.b F.ku.1 (h1.one h) 0 3 rfl rfl hin d (kk H locs ls h1 h2 h3)
theorem m_lald (F : Fx V X y cc nL ret R) {a len j : Nat} {f : Nat → Int64} {i : Int32} (d : DC cc pc 1 n .laload) (h : σ a = some (aJ V len f)) (hj : i.toNatClampNeg = j) (hin : vp_in i len) (kk : Wm V X nL N σ k z n lv (.long (f j) :: st)) : Wm V X nL N σ k z pc lv (.int i :: .ref a :: st) := by
  obtain ⟨d, rfl⟩ := d
  subst hj
  exact fun H locs ls h1 h2 h3 => va_lald F.e F.b F.ku.1 (h1.one h) 0 1 rfl rfl hin d (kk H locs ls h1 h2 h3)
theorem m_aald (F : Fx V X y cc nL ret R) {a len j ti : Nat} {C : String} {f : Nat → Option Nat} {i : Int32} (d : DC cc pc 1 n .aaload) (h : σ a = some (aR ti V len f)) (ht : (tysOf V.2.1)[ti]? = some (V.2.1 ti, .object C)) (hj : i.toNatClampNeg = j) (hin : vp_in i len) (kk : Wm V X nL N σ k z n lv (va_rf (f j) :: st)) : Wm V X nL N σ k z pc lv (.int i :: .ref a :: st) := by
  obtain ⟨d, rfl⟩ := d
  subst hj
  exact fun H locs ls h1 h2 h3 => va_aldq F.e F.b F.ku.1 (h1.one h) 0 ti rfl ht hin d (kk H locs ls h1 h2 h3)
theorem m_alen (F : Fx V X y cc nL ret R) {a ti : Nat} {b : vp_A} {ty : FieldType} {v : Int32} (d : DC cc pc 1 n .arraylength) (h : σ a = some (.inl (V.2.1 ti, b))) (ht : (tysOf V.2.1)[ti]? = some (V.2.1 ti, ty)) (hv : Int32.ofNat b.1 = v) (kk : Wm V X nL N σ k z n lv (.int v :: st)) : Wm V X nL N σ k z pc lv (.ref a :: st) := by
  obtain ⟨d, rfl⟩ := d
  exact fun H locs ls h1 h2 h3 => va_alen F.e F.b F.ku.1 (h1.one h) 0 ti rfl ht hv d (kk H locs ls h1 h2 h3)
theorem m_iast (F : Fx V X y cc nL ret R) {a len j : Nat} {f f' : Nat → Int32} {i : Int32} {x : Int32} {σ' : Mem} (d : DC cc pc 1 n .iastore) (h : σ a = some (aI V len f)) (hj : i.toNatClampNeg = j) (hin : vp_in i len) (hf : upd f j x = f') (hσ : va_up σ a (some (aI V len f')) = σ') (kk : Wm V X nL N σ' k z n lv st) : Wm V X nL N σ k z pc lv (.int x :: .int i :: .ref a :: st) := by
  obtain ⟨d, rfl⟩ := d
  subst hσ; subst hj; subst hf
  intro H locs ls h1 h2 h3
  refine W.iast F.e F.b (h1.at h) ((F.ku.1.2 0 _ rfl).1 len (fun j => .int (f j))) (fun q => by cases q) (by show ¬ (i < 0 ∨ (arrV _ _ _).slots.size ≤ _); rw [arrV_size]; exact hin) rfl rfl d fun H1 e z1 oq => ?_
  refine kk H1 _ ls (h1.put h z1 oq ?_) (locs_app h2 (h1.lt h).1) h3
  show H1[a]? = some (vp_cell _ _)
  rw [e]
  rw [vp_cell_i, vp_cell_i, arrV_store]
  congr 2
  funext q
  by_cases hq : q = i.toNatClampNeg
  · subst hq; simp [updV, upd]
  · simp [updV, upd, hq]
theorem m_last (F : Fx V X y cc nL ret R) {a len j : Nat} {f f' : Nat → Int64} {i : Int32} {x : Int64} {σ' : Mem} (d : DC cc pc 1 n .lastore) (h : σ a = some (aJ V len f)) (hj : i.toNatClampNeg = j) (hin : vp_in i len) (hf : vp_updL f j x = f') (hσ : va_up σ a (some (aJ V len f')) = σ') (kk : Wm V X nL N σ' k z n lv st) : Wm V X nL N σ k z pc lv (.long x :: .int i :: .ref a :: st) := by
  obtain ⟨d, rfl⟩ := d
  subst hσ; subst hj; subst hf
  intro H locs ls h1 h2 h3
  refine W.last F.e F.b (h1.at h) ((F.ku.1.2 1 _ rfl).1 len (fun j => .long (f j))) (fun q => by cases q) (by show ¬ (i < 0 ∨ (arrV _ _ _).slots.size ≤ _); rw [arrV_size]; exact hin) rfl rfl d fun H1 e z1 oq => ?_
  refine kk H1 _ ls (h1.put h z1 oq ?_) (locs_app h2 (h1.lt h).1) h3
  show H1[a]? = some (vp_cell _ _)
  rw [e]
  rw [vp_cell_l, vp_cell_l, arrV_store]
  congr 2
  funext q
  by_cases hq : q = i.toNatClampNeg
  · subst hq; simp [updV, vp_updL]
  · simp [updV, vp_updL, hq]
theorem m_bast (F : Fx V X y cc nL ret R) {a len j : Nat} {f f' : Nat → Int32} {i x x' : Int32} {σ' : Mem} (d : DC cc pc 1 n .bastore) (h : σ a = some (aB V len f)) (hj : i.toNatClampNeg = j) (hin : vp_in i len) (hx : narrow .byte (.int x) = .int x') (hf : upd f j x' = f') (hσ : va_up σ a (some (aB V len f')) = σ') (kk : Wm V X nL N σ' k z n lv st) : Wm V X nL N σ k z pc lv (.int x :: .int i :: .ref a :: st) := by
  obtain ⟨d, rfl⟩ := d
  subst hσ; subst hj; subst hf
  intro H locs ls h1 h2 h3
  refine W.bast F.e F.b (h1.at h) ((F.ku.1.2 2 _ rfl).1 len (fun j => .int (f j))) (fun q => by cases q) (by show ¬ (i < 0 ∨ (arrV _ _ _).slots.size ≤ _); rw [arrV_size]; exact hin) rfl rfl d fun H1 e z1 oq => ?_
  refine kk H1 _ ls (h1.put h z1 oq ?_) (locs_app h2 (h1.lt h).1) h3
  show H1[a]? = some (vp_cell _ _)
  rw [e, hx]
  rw [vp_cell_i, vp_cell_i, arrV_store]
  congr 2
  funext q
  by_cases hq : q = i.toNatClampNeg
  · subst hq; simp [updV, upd]
  · simp [updV, upd, hq]
theorem m_zast (F : Fx V X y cc nL ret R) {a len j : Nat} {f f' : Nat → Int32} {i x x' : Int32} {σ' : Mem} (d : DC cc pc 1 n .bastore) (h : σ a = some (aZ V len f)) (hj : i.toNatClampNeg = j) (hin : vp_in i len) (hx : narrow .boolean (.int x) = .int x') (hf : upd f j x' = f') (hσ : va_up σ a (some (aZ V len f')) = σ') (kk : Wm V X nL N σ' k z n lv st) : Wm V X nL N σ k z pc lv (.int x :: .int i :: .ref a :: st) := by
  obtain ⟨d, rfl⟩ := d
  subst hσ; subst hj; subst hf
  intro H locs ls h1 h2 h3
  refine W.zast F.e F.b (h1.at h) ((F.ku.1.2 3 _ rfl).1 len (fun j => .int (f j))) (fun q => by cases q) (by show ¬ (i < 0 ∨ (arrV _ _ _).slots.size ≤ _); rw [arrV_size]; exact hin) rfl rfl d fun H1 e z1 oq => ?_
  refine kk H1 _ ls (h1.put h z1 oq ?_) (locs_app h2 (h1.lt h).1) h3
  show H1[a]? = some (vp_cell _ _)
  rw [e, hx]
  rw [vp_cell_i, vp_cell_i, arrV_store]
  congr 2
  funext q
  by_cases hq : q = i.toNatClampNeg
  · subst hq; simp [updV, upd]
  · simp [updV, upd, hq]
theorem m_aast (F : Fx V X y cc nL ret R) {a len j ti v ci : Nat} {r : vw_C} {vs : List Value} {f f' : Nat → Option Nat} {i : Int32} {σ' : Mem} (d : DC cc pc 1 n .aastore) (h : σ a = some (aR ti V len f)) (ht : (tysOf V.2.1)[ti]? = some (V.2.1 ti, .object r.1)) (hv : σ v = some (.inr (ci, vs))) (hc : classes[ci]? = some r) (hj : i.toNatClampNeg = j) (hin : vp_in i len) (hf : va_up f j (some v) = f') (hσ : va_up σ a (some (aR ti V len f')) = σ') (kk : Wm V X nL N σ' k z n lv st) : Wm V X nL N σ k z pc lv (.ref v :: .int i :: .ref a :: st) := by
  obtain ⟨d, rfl⟩ := d
  subst hσ; subst hj; subst hf
  intro H locs ls h1 h2 h3
  have hlt : i.toNatClampNeg < len := Nat.not_le.mp fun q => hin (Or.inr q)
  have h0 : ¬ i < 0 := fun q => hin (Or.inl q)
  obtain ⟨r', hr', cellV, g1, g2, g3, -⟩ := h1.at hv
  have hcls := (F.ku.1.1 ci r hc).2
  obtain ⟨kA, comp, k1, k2, k3, -⟩ := (F.ku.1.2 ti _ ht).2
  have hcomp : comp = V.1.1 ci := Option.some.inj (k3.symm.trans hcls.1)
  subst hcomp
  obtain ⟨kC, hkC, -⟩ := hcls.2
  refine W.aast F.e F.b (h1.at h) (fun q h => by cases h) (fun h => by cases h) k1 k2 rfl hkC ⟨h0, by show _ < (arrV _ _ _).slots.size; rw [arrV_size]; exact hlt⟩ g1 (fun q h => by rw [g3] at h; cases h) (by rw [g2]; exact hkC) (by rw [g2]; exact va_assign hcls) rfl rfl d fun H1 e z1 oq => ?_
  refine kk H1 _ ls (h1.put h z1 oq ?_) (locs_app h2 (h1.lt h).1) h3
  show H1[a]? = some (vp_cell _ _)
  rw [e]
  rw [vp_cell_q, vp_cell_q, arrV_store]
  congr 2
  funext q
  by_cases hq : q = i.toNatClampNeg
  · subst hq; simp [updV, va_up, va_rf]
  · simp [updV, va_up, hq]
-- making
def FN (own : String) (index ci Nn : Nat) (fs : List Value) : Prop := ∃ (C : String) (T : u_T) (ty : Nat → FieldType), classes[ci]? = some (C, T, Nn) ∧ (∀ w ∈ u_ws C T Nn, w ∈ tb) ∧ Cond.classLink own index C ∈ tb ∧ Cond.instantiable C Nn ∈ tb ∧ Cond.initialized C ∈ tb ∧ (∀ k, k < Nn → parseFieldDescriptor (T k).2.2.1 = some (ty k)) ∧ ∀ j, j < Nn → defaultValue (ty j) = vp_V fs j
theorem m_new (F : Fx V X y cc nL ret R) {index ci Nn k' z' N' : Nat} {fs : List Value} (d : DC cc pc 3 n (.new index)) (fn : FN y.cls index ci Nn fs) (hk : k + 1 = k') (hz : z + Nn = z') (hN : N + 1 = N') (hc1 : k' ≤ R.cells) (hs1 : z' ≤ R.slots) (kk : Wm V X nL N' (va_up σ N (some (.inr (ci, fs)))) k' z' n lv (.ref N :: st)) : Wm V X nL N σ k z pc lv st := by
  obtain ⟨d, rfl⟩ := d
  subst hk; subst hz; subst hN
  obtain ⟨C, T, ty, hc, hin, hcl, hinst, hini, hty, hfs⟩ := fn
  intro H locs ls h1 h2 h3
  have hKn := F.ku.1.1 ci _ hc
  refine W.newcK F.e F.b F.own (F.ts _ hcl) (F.ts _ hinst) (F.ts _ hini) rfl d (by rw [F.rm]; exact hc1) (by rw [F.rm]; exact hs1) hKn.2.1 h1.1 fun H1 kC hkC e1 z1 o1 => ?_
  rw [← h1.1] at z1 o1
  exact kk H1 locs ls (h1.new z1 o1 ⟨_, hc, (u_born ty F.ts hin hKn hkC e1 hty).to hfs⟩) h2 h3
theorem m_newI (F : Fx V X y cc nL ret R) {len k' z' N' : Nat} {i : Int32} (d : DC cc pc 2 n (.newarray .int)) (hw : Cond.arrayClass .int ∈ tb) (hi : ¬ i < 0) (hl : i.toNatClampNeg = len) (hbytes : len * componentBytes .int ≤ 536870912) (hk : k + 1 = k') (hz : z + len = z') (hN : N + 1 = N') (hc1 : k' ≤ R.cells) (hs1 : z' ≤ R.slots) (kk : Wm V X nL N' (va_up σ N (some (aI V len (fun _ => 0)))) k' z' n lv (.ref N :: st)) : Wm V X nL N σ k z pc lv (.int i :: st) := by
  obtain ⟨d, rfl⟩ := d
  subst hk; subst hz; subst hN
  intro H locs ls h1 h2 h3
  refine va_newaK (atype := .int) F.e F.b (F.ts _ hw) rfl d rfl hi hl hbytes (by rw [F.rm]; exact hc1) (by rw [F.rm]; exact hs1) h1.1 fun H1 cA e1 z1 o1 hAr hNm => ?_
  have hcA : cA = V.2.1 0 := Option.some.inj (hNm.symm.trans (F.ku.1.2 0 _ rfl).2)
  subst hcA
  rw [← h1.1] at z1 o1
  exact kk H1 locs ls (h1.new z1 o1 (show H1[N]? = some (vp_cell _ _) by rw [e1, vp_cell_i]; rfl)) h2 h3
theorem m_newJ (F : Fx V X y cc nL ret R) {len k' z' N' : Nat} {i : Int32} (d : DC cc pc 2 n (.newarray .long)) (hw : Cond.arrayClass .long ∈ tb) (hi : ¬ i < 0) (hl : i.toNatClampNeg = len) (hbytes : len * componentBytes .long ≤ 536870912) (hk : k + 1 = k') (hz : z + len = z') (hN : N + 1 = N') (hc1 : k' ≤ R.cells) (hs1 : z' ≤ R.slots) (kk : Wm V X nL N' (va_up σ N (some (aJ V len (fun _ => 0)))) k' z' n lv (.ref N :: st)) : Wm V X nL N σ k z pc lv (.int i :: st) := by
  obtain ⟨d, rfl⟩ := d
  subst hk; subst hz; subst hN
  intro H locs ls h1 h2 h3
  refine va_newaK (atype := .long) F.e F.b (F.ts _ hw) rfl d rfl hi hl hbytes (by rw [F.rm]; exact hc1) (by rw [F.rm]; exact hs1) h1.1 fun H1 cA e1 z1 o1 hAr hNm => ?_
  have hcA : cA = V.2.1 1 := Option.some.inj (hNm.symm.trans (F.ku.1.2 1 _ rfl).2)
  subst hcA
  rw [← h1.1] at z1 o1
  exact kk H1 locs ls (h1.new z1 o1 (show H1[N]? = some (vp_cell _ _) by rw [e1, vp_cell_l]; rfl)) h2 h3
theorem m_newB (F : Fx V X y cc nL ret R) {len k' z' N' : Nat} {i : Int32} (d : DC cc pc 2 n (.newarray .byte)) (hw : Cond.arrayClass .byte ∈ tb) (hi : ¬ i < 0) (hl : i.toNatClampNeg = len) (hbytes : len * componentBytes .byte ≤ 536870912) (hk : k + 1 = k') (hz : z + len = z') (hN : N + 1 = N') (hc1 : k' ≤ R.cells) (hs1 : z' ≤ R.slots) (kk : Wm V X nL N' (va_up σ N (some (aB V len (fun _ => 0)))) k' z' n lv (.ref N :: st)) : Wm V X nL N σ k z pc lv (.int i :: st) := by
  obtain ⟨d, rfl⟩ := d
  subst hk; subst hz; subst hN
  intro H locs ls h1 h2 h3
  refine va_newaK (atype := .byte) F.e F.b (F.ts _ hw) rfl d rfl hi hl hbytes (by rw [F.rm]; exact hc1) (by rw [F.rm]; exact hs1) h1.1 fun H1 cA e1 z1 o1 hAr hNm => ?_
  have hcA : cA = V.2.1 2 := Option.some.inj (hNm.symm.trans (F.ku.1.2 2 _ rfl).2)
  subst hcA
  rw [← h1.1] at z1 o1
  exact kk H1 locs ls (h1.new z1 o1 (show H1[N]? = some (vp_cell _ _) by rw [e1, vp_cell_i]; rfl)) h2 h3
theorem m_newZ (F : Fx V X y cc nL ret R) {len k' z' N' : Nat} {i : Int32} (d : DC cc pc 2 n (.newarray .boolean)) (hw : Cond.arrayClass .boolean ∈ tb) (hi : ¬ i < 0) (hl : i.toNatClampNeg = len) (hbytes : len * componentBytes .boolean ≤ 536870912) (hk : k + 1 = k') (hz : z + len = z') (hN : N + 1 = N') (hc1 : k' ≤ R.cells) (hs1 : z' ≤ R.slots) (kk : Wm V X nL N' (va_up σ N (some (aZ V len (fun _ => 0)))) k' z' n lv (.ref N :: st)) : Wm V X nL N σ k z pc lv (.int i :: st) := by
  obtain ⟨d, rfl⟩ := d
  subst hk; subst hz; subst hN
  intro H locs ls h1 h2 h3
  refine va_newaK (atype := .boolean) F.e F.b (F.ts _ hw) rfl d rfl hi hl hbytes (by rw [F.rm]; exact hc1) (by rw [F.rm]; exact hs1) h1.1 fun H1 cA e1 z1 o1 hAr hNm => ?_
  have hcA : cA = V.2.1 3 := Option.some.inj (hNm.symm.trans (F.ku.1.2 3 _ rfl).2)
  subst hcA
  rw [← h1.1] at z1 o1
  exact kk H1 locs ls (h1.new z1 o1 (show H1[N]? = some (vp_cell _ _) by rw [e1, vp_cell_i]; rfl)) h2 h3
theorem m_anew (F : Fx V X y cc nL ret R) {index len k' z' N' ti : Nat} {C : String} {i : Int32} (d : DC cc pc 3 n (.anewarray index)) (hcl : Cond.classLink y.cls index C ∈ tb) (hao : va_AO C (x_s X)) (ht : (tysOf V.2.1)[ti]? = some (V.2.1 ti, .object C)) (hi : ¬ i < 0) (hl : i.toNatClampNeg = len) (hbytes : len * 4 ≤ 536870912) (hk : k + 1 = k') (hz : z + len = z') (hN : N + 1 = N') (hc1 : k' ≤ R.cells) (hs1 : z' ≤ R.slots) (kk : Wm V X nL N' (va_up σ N (some (aR ti V len (fun _ => none)))) k' z' n lv (.ref N :: st)) : Wm V X nL N σ k z pc lv (.int i :: st) := by
  obtain ⟨d, rfl⟩ := d
  subst hk; subst hz; subst hN; subst hl
  intro H locs ls h1 h2 h3
  have hh := h1.1
  subst hh
  refine W.anew F.e F.b F.own (F.ts _ hcl) (va_AO.use hao) rfl d rfl hi hbytes (by rw [F.rm]; exact hc1) (by rw [F.rm]; exact hs1) fun cA kA comp f1 f2 f3 f4 => ?_
  obtain ⟨kA', comp', -, -, -, f5⟩ := (F.ku.1.2 ti _ ht).2
  have hcA : cA = V.2.1 ti := Option.some.inj (f1.symm.trans f5)
  subst hcA
  refine kk _ locs ls (h1.new (by rw [Array.size_push]) (fun q hq => by rw [Array.getElem?_push, if_neg (Nat.ne_of_lt hq)]) ?_) h2 h3
  show (H.push _)[H.size]? = some (vp_cell _ _)
  rw [Array.getElem?_push_size, vp_cell_q, arrV_new]
  rfl
-- Object.<init>, Math, arraycopy
theorem m_objInit (F : Fx V X y cc nL ret R) {index a : Nat} (d : DC cc pc 3 n (.invokespecial index)) (hlink : Cond.methodLink y.cls index objectInit ∈ tb) (hinst : Cond.instanceMethod objectInit ∈ tb) (hcode : Cond.code objectInit ⟨#[0xb1]⟩ 1 none ∈ tb) (hfr : 1 ≤ R.frames) (hlo : (st.map fun v => v.category).sum + 12 ≤ R.locals) (kk : Wm V X nL N σ k z n lv st) : Wm V X nL N σ k z pc lv (.ref a :: st) := by
  obtain ⟨d, rfl⟩ := d
  intro H locs ls h1 h2 h3
  refine W.objInit F.e F.b F.own (F.ts _ hlink) (F.ts _ hinst) (F.ts _ hcode) rfl (by rw [F.ml]; exact h3.1) rfl d (by rw [F.rm]; exact hfr) ?_ (kk H locs ls h1 h2 h3)
  rw [F.rm]
  show 2 * 0 + _ + 12 ≤ _
  omega
theorem m_min (F : Fx V X y cc nL ret R) {index : Nat} {x w : Int32} (d : DC cc pc 3 n (.invokestatic index)) (hlink : Cond.methodLink y.cls index Lib.Math.min.name ∈ tb) (hstat : Cond.static Lib.Math.min.name ∈ tb) (hini : Cond.initialized "java/lang/Math" ∈ tb) (hcode : Cond.code Lib.Math.min.name Lib.Math.min.code 2 (some .int) ∈ tb) (hfr : 1 ≤ R.frames) (hlo : (st.map fun v => v.category).sum + 13 ≤ R.locals) (hc : k ≤ R.cells) (hs : z ≤ R.slots) (kk : Wm V X nL N σ k z n lv (.int (if w < x then w else x) :: st)) : Wm V X nL N σ k z pc lv (.int w :: .int x :: st) := by
  obtain ⟨d, rfl⟩ := d
  exact fun H locs ls h1 h2 h3 => va_mmin F.e F.b (by rw [F.ml]; exact h3.1.symm) F.own (F.ts _ hlink) (F.ts _ hstat) (F.ts _ hini) (F.ts _ hcode) (by rw [F.rm]; exact hfr) (by rw [F.rm]; exact hlo) (by rw [F.rm]; exact hc) (by rw [F.rm]; exact hs) d (kk H locs ls h1 h2 h3)
theorem m_max (F : Fx V X y cc nL ret R) {index : Nat} {x w : Int32} (d : DC cc pc 3 n (.invokestatic index)) (hlink : Cond.methodLink y.cls index Lib.Math.max.name ∈ tb) (hstat : Cond.static Lib.Math.max.name ∈ tb) (hini : Cond.initialized "java/lang/Math" ∈ tb) (hcode : Cond.code Lib.Math.max.name Lib.Math.max.code 2 (some .int) ∈ tb) (hfr : 1 ≤ R.frames) (hlo : (st.map fun v => v.category).sum + 13 ≤ R.locals) (hc : k ≤ R.cells) (hs : z ≤ R.slots) (kk : Wm V X nL N σ k z n lv (.int (if x < w then w else x) :: st)) : Wm V X nL N σ k z pc lv (.int w :: .int x :: st) := by
  obtain ⟨d, rfl⟩ := d
  exact fun H locs ls h1 h2 h3 => va_mmax F.e F.b (by rw [F.ml]; exact h3.1.symm) F.own (F.ts _ hlink) (F.ts _ hstat) (F.ts _ hini) (F.ts _ hcode) (by rw [F.rm]; exact hfr) (by rw [F.rm]; exact hlo) (by rw [F.rm]; exact hc) (by rw [F.rm]; exact hs) d (kk H locs ls h1 h2 h3)
theorem nn_toInt {i : Int32} (h : ¬ i < 0) : i.toInt = (i.toNatClampNeg : Int) := by
  have h0 : (0 : Int) ≤ i.toInt := by simpa using Int32.le_iff_toInt_le.mp (Int32.not_lt.mp h)
  show i.toInt = ((i.toInt.toNat : Nat) : Int)
  omega
def AC (own : String) (index : Nat) : Prop := Cond.methodLink own index arraycopyName ∈ tb ∧ Cond.native arraycopyName ∈ tb ∧ Cond.static arraycopyName ∈ tb ∧ Cond.initialized "java/lang/System" ∈ tb
theorem m_copyI (F : Fx V X y cc nL ret R) {index a b na nb sp dp m : Nat} {f g g' : Nat → Int32} {isp idp im : Int32} {σ' : Mem} (d : DC cc pc 3 n (.invokestatic index)) (ac : AC y.cls index) (ha : σ a = some (aI V na f)) (hb : σ b = some (aI V nb g)) (h1 : ¬ isp < 0) (h2 : ¬ idp < 0) (h3 : ¬ im < 0) (e1 : isp.toNatClampNeg = sp) (e2 : idp.toNatClampNeg = dp) (e3 : im.toNatClampNeg = m) (h4 : sp + m ≤ na) (h5 : dp + m ≤ nb) (hfr : 1 ≤ R.frames) (hlo : (st.map fun v => v.category).sum + (nativeFrameWords "java/lang/System" "arraycopy" 5 + 11) ≤ R.locals) (hg : va_cpy f g sp dp m = g') (hσ : va_up σ b (some (aI V nb g')) = σ') (kk : Wm V X nL N σ' k z n lv st) : Wm V X nL N σ k z pc lv (.int im :: .int idp :: .ref b :: .int isp :: .ref a :: st) := by
  obtain ⟨d, rfl⟩ := d
  obtain ⟨w1, w2, w3, w4⟩ := ac
  subst hσ; subst hg; subst e1; subst e2; subst e3
  intro H locs ls hM hL hl T hT S
  have ca := hM.at ha
  have cb := hM.at hb
  change H[a]? = some (vp_cell _ _) at ca
  change H[b]? = some (vp_cell _ _) at cb
  rw [vp_cell_i] at ca cb
  obtain ⟨-, k0, hk0, m0, hkk⟩ := (F.ku.1.2 0 _ rfl).1 na (fun j => .int (f j))
  have rd : ∀ i, i < im.toNatClampNeg → (arrV (V.2.1 0) na (fun j => Value.int (f j))).slots.getD (isp.toNatClampNeg + i) .null = .int (f (isp.toNatClampNeg + i)) := fun i hi => by
    rw [Array.getD_eq_getD_getElem?, arrV_read _ _ (by omega)]; rfl
  obtain ⟨vm', S', step⟩ := S.arraycopy F.e F.own (F.ts _ w1) (F.ts _ w2) (F.ts _ w3) (F.ts _ w4) (cs := arrV (V.2.1 0) na (fun j => Value.int (f j))) (cd := arrV (V.2.1 0) nb (fun j => Value.int (g j))) (srcPos := isp) (destPos := idp) (n := im) (by rw [hT]; exact ca) (by rw [hT]; exact cb) (fun _ h => by cases h) (fun _ h => by cases h) (fun h => by cases h) (fun h => by cases h) hk0 hk0 hkk hkk (by rfl) h1 h2 h3
    (by rw [nn_toInt h1, nn_toInt h3, arrV_size]; omega) (by rw [nn_toInt h2, nn_toInt h3, arrV_size]; omega)
    (fun vm₁ _ i hi => ⟨by rw [rd i hi]; rfl, by rw [rd i hi]; exact trivial⟩)
    (g := F0 (x_m X) pc ls (.int im :: .int idp :: .ref b :: .int isp :: .ref a :: st)) rfl (by rw [F.ml]; exact hl.1) (rest := st) rfl (by rw [F.b]; exact d) (by rw [F.rm]; exact hfr) (by rw [F.rm]; show 2 * 0 + _ + _ ≤ _; omega)
  have hcp : copied (arrV (V.2.1 0) na (fun j => Value.int (f j))) (arrV (V.2.1 0) nb (fun j => Value.int (g j))) isp idp im = arrV (V.2.1 0) nb (fun j => Value.int (va_cpy f g isp.toNatClampNeg idp.toNatClampNeg im.toNatClampNeg j)) := va_copied (fun q => Value.int q) _ _ f g h4
  rw [hcp] at S' step
  have hlt : b < T.heap.size := by rw [hT]; exact (Array.getElem?_eq_some_iff.mp cb).1
  have hlt2 : b < (T.setVm vm').heap.size := hlt
  obtain ⟨t, t1, t2⟩ := kk ((T.setVm vm').setCell b (arrV (V.2.1 0) nb (fun j => Value.int (va_cpy f g isp.toNatClampNeg idp.toNatClampNeg im.toNatClampNeg j)))).heap _ ls
    (hM.put hb (by rw [size_setCell]; show T.heap.size = _; rw [hT]) (fun q hq => by rw [heapAt_setCell_ne _ (Ne.symm hq)]; show T.heap[q]? = _; rw [hT]) (show _ = some (vp_cell _ _) by rw [vp_cell_i]; exact heapAt_setCell_self _ hlt2))
    (fun q hq => by
      rcases List.mem_append.mp hq with h | h
      · exact hL q h
      · obtain ⟨u, -, hu⟩ := List.mem_map.mp h
        rw [← hu]
        exact (hM.lt hb).1) hl _ rfl S'
  exact ⟨t, step t t1, t2⟩
theorem m_copyJ (F : Fx V X y cc nL ret R) {index a b na nb sp dp m : Nat} {f g g' : Nat → Int64} {isp idp im : Int32} {σ' : Mem} (d : DC cc pc 3 n (.invokestatic index)) (ac : AC y.cls index) (ha : σ a = some (aJ V na f)) (hb : σ b = some (aJ V nb g)) (h1 : ¬ isp < 0) (h2 : ¬ idp < 0) (h3 : ¬ im < 0) (e1 : isp.toNatClampNeg = sp) (e2 : idp.toNatClampNeg = dp) (e3 : im.toNatClampNeg = m) (h4 : sp + m ≤ na) (h5 : dp + m ≤ nb) (hfr : 1 ≤ R.frames) (hlo : (st.map fun v => v.category).sum + (nativeFrameWords "java/lang/System" "arraycopy" 5 + 11) ≤ R.locals) (hg : va_cpy f g sp dp m = g') (hσ : va_up σ b (some (aJ V nb g')) = σ') (kk : Wm V X nL N σ' k z n lv st) : Wm V X nL N σ k z pc lv (.int im :: .int idp :: .ref b :: .int isp :: .ref a :: st) := by
  obtain ⟨d, rfl⟩ := d
  obtain ⟨w1, w2, w3, w4⟩ := ac
  subst hσ; subst hg; subst e1; subst e2; subst e3
  intro H locs ls hM hL hl T hT S
  have ca := hM.at ha
  have cb := hM.at hb
  change H[a]? = some (vp_cell _ _) at ca
  change H[b]? = some (vp_cell _ _) at cb
  rw [vp_cell_l] at ca cb
  obtain ⟨-, k0, hk0, m0, hkk⟩ := (F.ku.1.2 1 _ rfl).1 na (fun j => .long (f j))
  have rd : ∀ i, i < im.toNatClampNeg → (arrV (V.2.1 1) na (fun j => Value.long (f j))).slots.getD (isp.toNatClampNeg + i) .null = .long (f (isp.toNatClampNeg + i)) := fun i hi => by
    rw [Array.getD_eq_getD_getElem?, arrV_read _ _ (by omega)]; rfl
  obtain ⟨vm', S', step⟩ := S.arraycopy F.e F.own (F.ts _ w1) (F.ts _ w2) (F.ts _ w3) (F.ts _ w4) (cs := arrV (V.2.1 1) na (fun j => Value.long (f j))) (cd := arrV (V.2.1 1) nb (fun j => Value.long (g j))) (srcPos := isp) (destPos := idp) (n := im) (by rw [hT]; exact ca) (by rw [hT]; exact cb) (fun _ h => by cases h) (fun _ h => by cases h) (fun h => by cases h) (fun h => by cases h) hk0 hk0 hkk hkk (by rfl) h1 h2 h3
    (by rw [nn_toInt h1, nn_toInt h3, arrV_size]; omega) (by rw [nn_toInt h2, nn_toInt h3, arrV_size]; omega)
    (fun vm₁ _ i hi => ⟨by rw [rd i hi]; rfl, by rw [rd i hi]; exact trivial⟩)
    (g := F0 (x_m X) pc ls (.int im :: .int idp :: .ref b :: .int isp :: .ref a :: st)) rfl (by rw [F.ml]; exact hl.1) (rest := st) rfl (by rw [F.b]; exact d) (by rw [F.rm]; exact hfr) (by rw [F.rm]; show 2 * 0 + _ + _ ≤ _; omega)
  have hcp : copied (arrV (V.2.1 1) na (fun j => Value.long (f j))) (arrV (V.2.1 1) nb (fun j => Value.long (g j))) isp idp im = arrV (V.2.1 1) nb (fun j => Value.long (va_cpy f g isp.toNatClampNeg idp.toNatClampNeg im.toNatClampNeg j)) := va_copied (fun q => Value.long q) _ _ f g h4
  rw [hcp] at S' step
  have hlt : b < T.heap.size := by rw [hT]; exact (Array.getElem?_eq_some_iff.mp cb).1
  have hlt2 : b < (T.setVm vm').heap.size := hlt
  obtain ⟨t, t1, t2⟩ := kk ((T.setVm vm').setCell b (arrV (V.2.1 1) nb (fun j => Value.long (va_cpy f g isp.toNatClampNeg idp.toNatClampNeg im.toNatClampNeg j)))).heap _ ls
    (hM.put hb (by rw [size_setCell]; show T.heap.size = _; rw [hT]) (fun q hq => by rw [heapAt_setCell_ne _ (Ne.symm hq)]; show T.heap[q]? = _; rw [hT]) (show _ = some (vp_cell _ _) by rw [vp_cell_l]; exact heapAt_setCell_self _ hlt2))
    (fun q hq => by
      rcases List.mem_append.mp hq with h | h
      · exact hL q h
      · obtain ⟨u, -, hu⟩ := List.mem_map.mp h
        rw [← hu]
        exact (hM.lt hb).1) hl _ rfl S'
  exact ⟨t, step t t1, t2⟩
-- contracts
abbrev rmd (d mc ms : Nat) : Room := { frames := d, cells := mc, slots := ms, locals := 41 * d }
def Qm (V : VX) (Nf : Nat) (Post : Option Value → Mem → Prop) : State → Outcome → State → Prop := fun _ o t => ∃ (r : Option Value) (σ' : Mem), o = .returned r ∧ Post r σ' ∧ HM V Nf σ' t.heap
def Ct (l : Launch) (V : VX) (y : MethodName) (cc : ByteArray) (maxL : Nat) (ret : Option FieldType) (d mc ms N : Nat) (σ : Mem) (as : List Value) (Post : Option Value → Mem → Prop) : Prop :=
  Met l y (.code y cc maxL ret :: tb) (rmd d mc ms) (fun v U => v = as.toArray ∧ HM V N σ U.heap ∧ KU V U) (fun _ s o t => Qm V (N + mc) Post s o t) mc ms (fun q => V.2.2.size ≤ q)
def Rt (V : VX) (X : MX) (mc ms Nf : Nat) (Post : Option Value → Mem → Prop) : Prop := x_Q X = MQ (x_b X) (fun _ s o t => Qm V Nf Post s o t) (x_a X) (x_s X) mc ms (fun q => V.2.2.size ≤ q)
theorem Ct.of {l : Launch} {cc : ByteArray} {maxL d mc ms : Nat} {as : List Value} {Post : Option Value → Mem → Prop} (hy : plainName y.cls = true) (hle : (lg_sl as).length ≤ maxL) (lv0 : List (Nat × Value)) (hlv : lv_args 0 as = lv0)
    (body : ∀ X : MX, x_l X = l → Fx V X y cc maxL ret (rmd d mc ms) → Rt V X mc ms (N + mc) Post → Wm V X maxL N σ 0 0 0 lv0 []) : Ct l V y cc maxL ret d mc ms N σ as Post := by
  refine Met.ofW (cc := cc) (maxL := maxL) (ret := ret) hy rfl ?_
  intro p e s m args below meth c s₁ B hml hv
  obtain ⟨rfl, hM, hK⟩ := hv
  have hts := atoms_spec (ws := Cond.code y cc maxL ret :: tb) B.pre
  have h3 := lv_entry as (n := maxL) hle
  rw [lg_entry_eq]
  rw [hlv] at h3
  exact body ((p, l, e, rmd d mc ms, s, m, as.toArray, below, meth, c), MQ below (fun _ s o t => Qm V (N + mc) Post s o t) as.toArray s mc ms (fun q => V.2.2.size ≤ q)) rfl
    ⟨B.exec, B.bytes, hml, findClass_of_methodNamed B.named, fun w hw => hts w (List.mem_cons_of_mem _ hw), hK, B.returns, B.notSynchronized, (name_of_methodNamed B.named B.method).1, rfl⟩ rfl s.heap [] _ hM (fun _ h => absurd h List.not_mem_nil) h3
theorem Ct.weak {l : Launch} {cc : ByteArray} {maxL d mc ms : Nat} {as : List Value} {Post Post' : Option Value → Mem → Prop} (h : Ct l V y cc maxL ret d mc ms N σ as Post) (hp : ∀ r τ, Post r τ → Post' r τ) : Ct l V y cc maxL ret d mc ms N σ as Post' := by
  intro p e ha hc hk s m args below hf happ hP hK
  obtain ⟨k, o, h1, h2, h3, ⟨⟨r, τ, e1, e2, e3⟩, h5⟩⟩ := h p e ha hc hk s m args below hf happ hP hK
  exact ⟨k, o, h1, h2, h3, ⟨⟨r, τ, e1, hp _ _ e2, e3⟩, h5⟩⟩
section RET
variable {mc ms Nf : Nat} {Post : Option Value → Mem → Prop}
theorem m_iret (F : Fx V X y cc nL (some .int) R) (hQ : Rt V X mc ms Nf Post) {v : Int32} (d : DC cc pc 1 n .ireturn) (hp : Post (some (.int v)) σ) : Wm V X nL Nf σ mc ms pc lv [.int v] := by
  obtain ⟨d, rfl⟩ := d
  intro H locs ls h1 h2 h3
  rw [show x_Q X = _ from hQ]
  exact W.iret F.e F.b F.rt (fun t ht hW => ⟨_, σ, rfl, hp, by rw [ht]; exact h1⟩) h2 d F.lk
theorem m_zret (F : Fx V X y cc nL (some .boolean) R) (hQ : Rt V X mc ms Nf Post) {v : Int32} (d : DC cc pc 1 n .ireturn) (hn : narrow .boolean (.int v) = .int v) (hp : Post (some (.int v)) σ) : Wm V X nL Nf σ mc ms pc lv [.int v] := by
  obtain ⟨d, rfl⟩ := d
  intro H locs ls h1 h2 h3
  rw [show x_Q X = _ from hQ]
  exact W.zret F.e F.b F.rt hn (fun t ht hW => ⟨_, σ, rfl, hp, by rw [ht]; exact h1⟩) h2 d F.lk
theorem m_lret (F : Fx V X y cc nL (some .long) R) (hQ : Rt V X mc ms Nf Post) {v : Int64} (d : DC cc pc 1 n .lreturn) (hp : Post (some (.long v)) σ) : Wm V X nL Nf σ mc ms pc lv [.long v] := by
  obtain ⟨d, rfl⟩ := d
  intro H locs ls h1 h2 h3
  rw [show x_Q X = _ from hQ]
  exact W.lret F.e F.b F.rt (fun t ht hW => ⟨_, σ, rfl, hp, by rw [ht]; exact h1⟩) h2 d F.lk
theorem m_vret (F : Fx V X y cc nL none R) (hQ : Rt V X mc ms Nf Post) (d : DC cc pc 1 n .return_) (hp : Post none σ) : Wm V X nL Nf σ mc ms pc lv [] := by
  obtain ⟨d, rfl⟩ := d
  intro H locs ls h1 h2 h3
  rw [show x_Q X = _ from hQ]
  exact W.vret F.e F.b F.rt (fun t ht hW => ⟨_, σ, rfl, hp, by rw [ht]; exact h1⟩) h2 d F.lk
theorem m_aret {C : String} (F : Fx V X y cc nL (some (.object C)) R) (hQ : Rt V X mc ms Nf Post) {v : Value} (d : DC cc pc 1 n .areturn) (hv : v = .null ∨ ∃ a, v = .ref a) (hp : Post (some v) σ) : Wm V X nL Nf σ mc ms pc lv [v] := by
  obtain ⟨d, rfl⟩ := d
  intro H locs ls h1 h2 h3
  rw [show x_Q X = _ from hQ]
  exact W.aret F.e F.b F.rt (Or.inl ⟨_, rfl⟩) hv (fun t ht hW => ⟨_, σ, rfl, hp, by rw [ht]; exact h1⟩) h2 d F.lk
end RET
-- calls
section CALLS
variable {mc ms dd maxL cn k' z' N' : Nat} {Post : Option Value → Mem → Prop} {y2 : MethodName} {c2 : ByteArray} {r2 : Option FieldType} {As rest : List Value}
theorem m_ran {H : Heap} {locs : List Loc} {ls : Array Slot} (hr : va_Run (x_p X) (x_l X) (x_e X) (x_R X) (x_s X) (x_m X) (x_a X) (x_b X) (x_t X) (x_c X) H locs k z mc ms (F0 (x_m X) pc ls st) rest (fun s o t => Qm V (N + mc) Post s o t) (fun q => V.2.2.size ≤ q)) (hL : ∀ q ∈ locs, V.2.2.size ≤ q.base) (h3 : lv_has ls nL lv) (kk : ∀ r τ, Post r τ → Wm V X nL (N + mc) τ (k + mc) (z + ms) (pc + 3) lv (r.toList ++ rest)) : W (x_p X) (x_l X) (x_e X) (x_R X) (x_s X) (x_m X) (x_a X) (x_b X) (x_t X) (x_c X) H locs k z (x_Q X) (F0 (x_m X) pc ls st) := by
  intro T hT S
  obtain ⟨v, st₀, t, T', L, h0, S', hL', e1, e2, ⟨r, τ, hv, hp, hm⟩, step⟩ := hr T hT S
  cases hv
  obtain ⟨t2, a1, b1⟩ := kk v τ hp T'.heap (locs ++ L) ls (by rw [e1]; exact hm) (fun q hq => by
      rcases List.mem_append.mp hq with h | h
      · exact hL q h
      · exact hL' q h) h3 T' rfl S'
  exact ⟨t2, step t2 a1, b1⟩
def CB (y2 : MethodName) (c2 : ByteArray) (maxL : Nat) (r2 : Option FieldType) (cn : Nat) : Prop := Cond.code y2 c2 maxL r2 ∈ tb ∧ Cond.initialized y2.cls ∈ tb ∧ (y2.cls ≠ "java/lang/invoke/MethodHandle" ∧ y2.cls ≠ "java/lang/invoke/VarHandle" ∧ (parseMethodDescriptor y2.desc).map (fun d => d.parameters.length) = some cn)
theorem pc_blind {as : List Value} : FrameBlind (fun v U => v = as.toArray ∧ HM V N σ U.heap ∧ KU V U) := fun _ _ _ _ q => ⟨q.1, q.2.1, q.2.2.call⟩
theorem cond_tb (cb : CB y2 c2 maxL r2 cn) : ∀ w ∈ (Cond.code y2 c2 maxL r2 :: tb), w ∈ tb := fun w hw => (List.mem_cons.mp hw).elim (fun e => e ▸ cb.1) id
theorem m_callV (F : Fx V X y cc nL ret R) {index ci a : Nat} {fs : List Value} (d : DC cc pc 3 n (.invokevirtual index)) (hM : Ct (x_l X) V y2 c2 maxL r2 dd mc ms N σ (.ref a :: As) Post) (cb : CB y2 c2 maxL r2 cn) (hlink : Cond.methodLink y.cls index y2 ∈ tb) (hin : Cond.instanceMethod y2 ∈ tb) (hse : Cond.selects y2.cls y2 y2 ∈ tb) (ha : σ a = some (.inr (ci, fs))) (hci : (classes[ci]?).map (·.1) = some y2.cls) (hn : As.length = cn) (hst : st = As.reverse ++ .ref a :: rest) (hw : (rest.map fun v => v.category).sum ≤ 8) (hR : dd + 1 ≤ R.frames ∧ 8 + (maxL + 11) + 41 * dd ≤ R.locals) (hf : k + mc ≤ R.cells ∧ z + ms ≤ R.slots) (hk : k + mc = k') (hz : z + ms = z') (hN : N + mc = N') (kk : ∀ r τ, Post r τ → Wm V X nL N' τ k' z' n lv (r.toList ++ rest)) : Wm V X nL N σ k z pc lv st := by
  obtain ⟨d, rfl⟩ := d
  subst hk; subst hz; subst hN; subst hst
  intro H locs ls h1 h2 h3
  obtain ⟨q, hq, hq1⟩ := Option.map_eq_some_iff.mp hci
  have hrecv := va_recv F.ku.1 (h1.one ha) hq (q0 := 0) rfl
  rw [hq1] at hrecv
  have hb := callB_of (own := y.cls) (index := index) (y := y2) (bytes := c2) (maxL := maxL) (ret := r2) (ws := Cond.code y2 c2 maxL r2 :: tb) (rm := rmd dd mc ms) (mc := mc) (ms := ms) (R := x_R X) cn F.ts (tb_gi (cond_tb cb)) rfl rfl rfl (F.ts _ cb.2.1) (F.ts _ hlink) cb.2.2 (by rw [F.rm]; exact hR)
  refine m_ran (va_runV (C := y2.cls) (As := As) (rest := rest) ⟨F.e, F.b, F.ml, F.own, F.ts⟩ hM ⟨hb, F.ts _ hin, F.ts _ hse⟩ ⟨pc_blind, hrecv, fun U hU hW => ⟨rfl, by rw [hU]; exact h1, F.ku.warm hW⟩⟩ rfl hn h3.1 rfl (lv_room hw) d (by rw [F.rm]; exact hf)) h2 h3 kk
theorem m_callS (F : Fx V X y cc nL ret R) {index : Nat} (d : DC cc pc 3 n (.invokestatic index)) (hM : Ct (x_l X) V y2 c2 maxL r2 dd mc ms N σ As Post) (cb : CB y2 c2 maxL r2 cn) (hlink : Cond.methodLink y.cls index y2 ∈ tb) (hsta : Cond.static y2 ∈ tb) (hn : As.length = cn) (hst : st = As.reverse ++ rest) (hw : (rest.map fun v => v.category).sum ≤ 8) (hR : dd + 1 ≤ R.frames ∧ 8 + (maxL + 11) + 41 * dd ≤ R.locals) (hf : k + mc ≤ R.cells ∧ z + ms ≤ R.slots) (hk : k + mc = k') (hz : z + ms = z') (hN : N + mc = N') (kk : ∀ r τ, Post r τ → Wm V X nL N' τ k' z' n lv (r.toList ++ rest)) : Wm V X nL N σ k z pc lv st := by
  obtain ⟨d, rfl⟩ := d
  subst hk; subst hz; subst hN; subst hst
  intro H locs ls h1 h2 h3
  have hb := callB_of (own := y.cls) (index := index) (y := y2) (bytes := c2) (maxL := maxL) (ret := r2) (ws := Cond.code y2 c2 maxL r2 :: tb) (rm := rmd dd mc ms) (mc := mc) (ms := ms) (R := x_R X) cn F.ts (tb_gi (cond_tb cb)) rfl rfl rfl (F.ts _ cb.2.1) (F.ts _ hlink) cb.2.2 (by rw [F.rm]; exact hR)
  refine m_ran (va_runS (As := As) (rest := rest) ⟨F.e, F.b, F.ml, F.own, F.ts⟩ hM ⟨hb, F.ts _ hsta⟩ ⟨pc_blind, fun U hU hW => ⟨rfl, by rw [hU]; exact h1, F.ku.warm hW⟩⟩ rfl hn h3.1 rfl (lv_room hw) d (by rw [F.rm]; exact hf)) h2 h3 kk
theorem m_callI (F : Fx V X y cc nL ret R) {index a : Nat} (d : DC cc pc 3 n (.invokespecial index)) (hM : Ct (x_l X) V y2 c2 maxL none dd mc ms N σ (.ref a :: As) Post) (cb : CB y2 c2 maxL none cn) (hlink : Cond.methodLink y.cls index y2 ∈ tb) (hin : Cond.instanceMethod y2 ∈ tb) (hy1 : y2.name = "<init>") (hn : As.length = cn) (hst : st = As.reverse ++ .ref a :: rest) (hw : (rest.map fun v => v.category).sum ≤ 8) (hR : dd + 1 ≤ R.frames ∧ 8 + (maxL + 11) + 41 * dd ≤ R.locals) (hf : k + mc ≤ R.cells ∧ z + ms ≤ R.slots) (hk : k + mc = k') (hz : z + ms = z') (hN : N + mc = N') (kk : ∀ r τ, Post r τ → Wm V X nL N' τ k' z' n lv (r.toList ++ rest)) : Wm V X nL N σ k z pc lv st := by
  obtain ⟨d, rfl⟩ := d
  subst hk; subst hz; subst hN; subst hst
  intro H locs ls h1 h2 h3
  have hb := callB_of (own := y.cls) (index := index) (y := y2) (bytes := c2) (maxL := maxL) (ret := none) (ws := Cond.code y2 c2 maxL none :: tb) (rm := rmd dd mc ms) (mc := mc) (ms := ms) (R := x_R X) cn F.ts (tb_gi (cond_tb cb)) rfl rfl rfl (F.ts _ cb.2.1) (F.ts _ hlink) cb.2.2 (by rw [F.rm]; exact hR)
  refine m_ran (va_runI (b := a) (As := As) (rest := rest) ⟨F.e, F.b, F.ml, F.own, F.ts⟩ hM ⟨hb, hy1, F.ts _ hin⟩ ⟨pc_blind, fun U hU hW => ⟨rfl, by rw [hU]; exact h1, F.ku.warm hW⟩⟩ rfl hn h3.1 rfl (lv_room hw) d (by rw [F.rm]; exact hf)) h2 h3 kk
theorem m_callIN (F : Fx V X y cc nL ret R) {index a : Nat} (d : DC cc pc 3 n (.invokespecial index)) (hM : Ct (x_l X) V y2 c2 maxL none dd mc ms N σ (.ref a :: As) Post) (cb : CB y2 c2 maxL none cn) (hlink : Cond.methodLinkNest y.cls index y2 RX9 ∈ nestW) (hin : Cond.instanceMethod y2 ∈ tb) (hy1 : y2.name = "<init>") (hn : As.length = cn) (hst : st = As.reverse ++ .ref a :: rest) (hw : (rest.map fun v => v.category).sum ≤ 8) (hR : dd + 1 ≤ R.frames ∧ 8 + (maxL + 11) + 41 * dd ≤ R.locals) (hf : k + mc ≤ R.cells ∧ z + ms ≤ R.slots) (hk : k + mc = k') (hz : z + ms = z') (hN : N + mc = N') (kk : ∀ r τ, Post r τ → Wm V X nL N' τ k' z' n lv (r.toList ++ rest)) : Wm V X nL N σ k z pc lv st := by
  obtain ⟨d, rfl⟩ := d
  subst hk; subst hz; subst hN; subst hst
  intro H locs ls h1 h2 h3
  have hb := va_cnB (own := y.cls) (host := RX9) (index := index) (y := y2) (bytes := c2) (maxL := maxL) (ret := none) (ws := Cond.code y2 c2 maxL none :: tb) (rm := rmd dd mc ms) (mc := mc) (ms := ms) (R := x_R X) cn F.ts (tb_gi (cond_tb cb)) rfl rfl rfl (F.ku.2.1 _ hlink) (F.ts _ cb.2.1) cb.2.2 (by rw [F.rm]; exact hR)
  refine m_ran (va_runIN (b := a) (As := As) (rest := rest) ⟨F.e, F.b, F.ml, F.own, F.ts⟩ hM ⟨hb, hy1, F.ts _ hin⟩ ⟨pc_blind, fun U hU hW => ⟨rfl, by rw [hU]; exact h1, F.ku.warm hW⟩⟩ rfl hn h3.1 rfl (lv_room hw) d (by rw [F.rm]; exact hf)) h2 h3 kk
end CALLS
end ROWS
-- reading through writes
theorem ru_ne {σ : Mem} {a b : Nat} {e x : Option va_E} (h : b ≠ a) (hs : σ b = x) : (va_up σ a e) b = x := (va_up_ne σ e h).trans hs
theorem ru_eq {σ : Mem} {a : Nat} {e : va_E} : (va_up σ a (some e)) a = some e := va_up_self σ a (some e)
end
section
theorem e_X1_init_0 : DC cX1_init 0 1 1 (.aload_n 0) := ⟨by decide +kernel, rfl⟩
theorem e_X1_init_1 : DC cX1_init 1 3 4 (.invokespecial 1) := ⟨by decide +kernel, rfl⟩
theorem ml_X1_1 : Cond.methodLink RX1 1 objectInit ∈ tb := tb_in 73 (by decide +kernel) (by decide +kernel)
theorem im_obj : Cond.instanceMethod objectInit ∈ tb := tb_in 35 (by decide +kernel) (by decide +kernel)
theorem co_obj : Cond.code objectInit ⟨#[0xb1]⟩ 1 none ∈ tb := tb_in 36 (by decide +kernel) (by decide +kernel)
theorem e_X1_init_4 : DC cX1_init 4 1 5 (.return_) := ⟨by decide +kernel, rfl⟩
theorem e_X6_init_0 : DC cX6_init 0 1 1 (.aload_n 0) := ⟨by decide +kernel, rfl⟩
theorem e_X6_init_1 : DC cX6_init 1 3 4 (.invokespecial 1) := ⟨by decide +kernel, rfl⟩
theorem ml_X6_1 : Cond.methodLink RX6 1 objectInit ∈ tb := tb_in 201 (by decide +kernel) (by decide +kernel)
theorem e_X6_init_4 : DC cX6_init 4 1 5 (.return_) := ⟨by decide +kernel, rfl⟩
theorem e_X8_init_0 : DC cX8_init 0 1 1 (.aload_n 0) := ⟨by decide +kernel, rfl⟩
theorem e_X8_init_1 : DC cX8_init 1 3 4 (.invokespecial 3) := ⟨by decide +kernel, rfl⟩
theorem ml_X8_3 : Cond.methodLink RX8 3 objectInit ∈ tb := tb_in 95 (by decide +kernel) (by decide +kernel)
theorem e_X8_init_4 : DC cX8_init 4 1 5 (.aload_n 0) := ⟨by decide +kernel, rfl⟩
theorem e_X8_init_5 : DC cX8_init 5 2 7 (.bipush 72) := ⟨by decide +kernel, rfl⟩
theorem e_X8_init_7 : DC cX8_init 7 2 9 (.newarray .long) := ⟨by decide +kernel, rfl⟩
theorem arr_long : Cond.arrayClass .long ∈ tb := tb_in 67 (by decide +kernel) (by decide +kernel)
theorem e_X8_init_9 : DC cX8_init 9 3 12 (.putfield 9) := ⟨by decide +kernel, rfl⟩
theorem uw_6 : ∀ w ∈ u_ws RX8 TX8 3, w ∈ tb := tb_all [101, 103, 105] (by decide +kernel) (by decide +kernel)
theorem fp_X8_9 : FP RX8 9 6 0 true (.array .long) := ⟨RX8, TX8, 3, tyX8, rfl, by decide, uw_6, tb_in 98 (by decide +kernel) (by decide +kernel), rfl, rfl, by decide +kernel, tyX8_ok, nmX8⟩
theorem e_X8_init_12 : DC cX8_init 12 1 13 (.aload_n 0) := ⟨by decide +kernel, rfl⟩
theorem e_X8_init_13 : DC cX8_init 13 2 15 (.bipush 72) := ⟨by decide +kernel, rfl⟩
theorem e_X8_init_15 : DC cX8_init 15 2 17 (.newarray .long) := ⟨by decide +kernel, rfl⟩
theorem e_X8_init_17 : DC cX8_init 17 3 20 (.putfield 15) := ⟨by decide +kernel, rfl⟩
theorem fp_X8_15 : FP RX8 15 6 1 true (.array .long) := ⟨RX8, TX8, 3, tyX8, rfl, by decide, uw_6, tb_in 99 (by decide +kernel) (by decide +kernel), rfl, rfl, by decide +kernel, tyX8_ok, nmX8⟩
theorem e_X8_init_20 : DC cX8_init 20 1 21 (.aload_n 0) := ⟨by decide +kernel, rfl⟩
theorem e_X8_init_21 : DC cX8_init 21 3 24 (.new 18) := ⟨by decide +kernel, rfl⟩
theorem uw_0 : ∀ w ∈ u_ws RX1 TX1 2, w ∈ tb := tb_all [78, 80] (by decide +kernel) (by decide +kernel)
theorem fn_X8_18 : FN RX8 18 0 2 [.long 0, .long 0] := ⟨RX1, TX1, tyX1, rfl, uw_0, tb_in 96 (by decide +kernel) (by decide +kernel), tb_in 69 (by decide +kernel) (by decide +kernel), tb_in 4 (by decide +kernel) (by decide +kernel), tyX1_ok, by decide +kernel⟩
theorem e_X8_init_24 : DC cX8_init 24 1 25 (.dup) := ⟨by decide +kernel, rfl⟩
theorem e_X8_init_25 : DC cX8_init 25 3 28 (.invokespecial 20) := ⟨by decide +kernel, rfl⟩
theorem cb_X1_init : CB yX1_init cX1_init 1 none 0 := ⟨tb_in 72 (by decide +kernel) (by decide +kernel), tb_in 4 (by decide +kernel) (by decide +kernel), by decide +kernel⟩
theorem im_X1_init : Cond.instanceMethod yX1_init ∈ tb := tb_in 71 (by decide +kernel) (by decide +kernel)
theorem e_X8_init_28 : DC cX8_init 28 3 31 (.putfield 21) := ⟨by decide +kernel, rfl⟩
theorem fp_X8_21 : FP RX8 21 6 2 true (.object "LeaseLedger$Amount") := ⟨RX8, TX8, 3, tyX8, rfl, by decide, uw_6, tb_in 100 (by decide +kernel) (by decide +kernel), rfl, rfl, by decide +kernel, tyX8_ok, nmX8⟩
theorem e_X8_init_31 : DC cX8_init 31 1 32 (.return_) := ⟨by decide +kernel, rfl⟩
theorem e_X3_init_0 : DC cX3_init 0 1 1 (.aload_n 0) := ⟨by decide +kernel, rfl⟩
theorem e_X3_init_1 : DC cX3_init 1 3 4 (.invokespecial 5) := ⟨by decide +kernel, rfl⟩
theorem ml_X3_5 : Cond.methodLink RX3 5 objectInit ∈ tb := tb_in 52 (by decide +kernel) (by decide +kernel)
theorem e_X3_init_4 : DC cX3_init 4 1 5 (.aload_n 0) := ⟨by decide +kernel, rfl⟩
theorem e_X3_init_5 : DC cX3_init 5 3 8 (.sipush 360) := ⟨by decide +kernel, rfl⟩
theorem e_X3_init_8 : DC cX3_init 8 2 10 (.newarray .long) := ⟨by decide +kernel, rfl⟩
theorem e_X3_init_10 : DC cX3_init 10 3 13 (.putfield 11) := ⟨by decide +kernel, rfl⟩
theorem uw_2 : ∀ w ∈ u_ws RX3 TX3 3, w ∈ tb := tb_all [58, 60, 62] (by decide +kernel) (by decide +kernel)
theorem fp_X3_11 : FP RX3 11 2 0 true (.array .long) := ⟨RX3, TX3, 3, tyX3, rfl, by decide, uw_2, tb_in 53 (by decide +kernel) (by decide +kernel), rfl, rfl, by decide +kernel, tyX3_ok, nmX3⟩
theorem e_X3_init_13 : DC cX3_init 13 1 14 (.aload_n 0) := ⟨by decide +kernel, rfl⟩
theorem e_X3_init_14 : DC cX3_init 14 2 16 (.bipush 6) := ⟨by decide +kernel, rfl⟩
theorem e_X3_init_16 : DC cX3_init 16 2 18 (.newarray .long) := ⟨by decide +kernel, rfl⟩
theorem e_X3_init_18 : DC cX3_init 18 3 21 (.putfield 15) := ⟨by decide +kernel, rfl⟩
theorem fp_X3_15 : FP RX3 15 2 1 true (.array .long) := ⟨RX3, TX3, 3, tyX3, rfl, by decide, uw_2, tb_in 54 (by decide +kernel) (by decide +kernel), rfl, rfl, by decide +kernel, tyX3_ok, nmX3⟩
theorem e_X3_init_21 : DC cX3_init 21 1 22 (.return_) := ⟨by decide +kernel, rfl⟩
theorem e_X5_init_0 : DC cX5_init 0 1 1 (.aload_n 0) := ⟨by decide +kernel, rfl⟩
theorem e_X5_init_1 : DC cX5_init 1 3 4 (.invokespecial 3) := ⟨by decide +kernel, rfl⟩
theorem ml_X5_3 : Cond.methodLink RX5 3 objectInit ∈ tb := tb_in 87 (by decide +kernel) (by decide +kernel)
theorem e_X5_init_4 : DC cX5_init 4 1 5 (.aload_n 0) := ⟨by decide +kernel, rfl⟩
theorem e_X5_init_5 : DC cX5_init 5 3 8 (.new 9) := ⟨by decide +kernel, rfl⟩
theorem fn_X5_9 : FN RX5 9 0 2 [.long 0, .long 0] := ⟨RX1, TX1, tyX1, rfl, uw_0, tb_in 88 (by decide +kernel) (by decide +kernel), tb_in 69 (by decide +kernel) (by decide +kernel), tb_in 4 (by decide +kernel) (by decide +kernel), tyX1_ok, by decide +kernel⟩
theorem e_X5_init_8 : DC cX5_init 8 1 9 (.dup) := ⟨by decide +kernel, rfl⟩
theorem e_X5_init_9 : DC cX5_init 9 3 12 (.invokespecial 11) := ⟨by decide +kernel, rfl⟩
theorem e_X5_init_12 : DC cX5_init 12 3 15 (.putfield 12) := ⟨by decide +kernel, rfl⟩
theorem uw_3 : ∀ w ∈ u_ws RX5 TX5 18, w ∈ tb := tb_all [160, 162, 164, 166, 168, 170, 172, 174, 176, 178, 180, 182, 184, 186, 188, 190, 192, 194] (by decide +kernel) (by decide +kernel)
theorem fp_X5_12 : FP RX5 12 3 13 true (.object "LeaseLedger$Amount") := ⟨RX5, TX5, 18, tyX5, rfl, by decide, uw_3, tb_in 147 (by decide +kernel) (by decide +kernel), rfl, rfl, by decide +kernel, tyX5_ok, nmX5⟩
theorem e_X5_init_15 : DC cX5_init 15 1 16 (.aload_n 0) := ⟨by decide +kernel, rfl⟩
theorem e_X5_init_16 : DC cX5_init 16 3 19 (.new 9) := ⟨by decide +kernel, rfl⟩
theorem e_X5_init_19 : DC cX5_init 19 1 20 (.dup) := ⟨by decide +kernel, rfl⟩
theorem e_X5_init_20 : DC cX5_init 20 3 23 (.invokespecial 11) := ⟨by decide +kernel, rfl⟩
theorem e_X5_init_23 : DC cX5_init 23 3 26 (.putfield 18) := ⟨by decide +kernel, rfl⟩
theorem fp_X5_18 : FP RX5 18 3 14 true (.object "LeaseLedger$Amount") := ⟨RX5, TX5, 18, tyX5, rfl, by decide, uw_3, tb_in 150 (by decide +kernel) (by decide +kernel), rfl, rfl, by decide +kernel, tyX5_ok, nmX5⟩
theorem e_X5_init_26 : DC cX5_init 26 1 27 (.aload_n 0) := ⟨by decide +kernel, rfl⟩
theorem e_X5_init_27 : DC cX5_init 27 3 30 (.new 21) := ⟨by decide +kernel, rfl⟩
theorem fn_X5_21 : FN RX5 21 6 3 [.null, .null, .null] := ⟨RX8, TX8, tyX8, rfl, uw_6, tb_in 90 (by decide +kernel) (by decide +kernel), tb_in 91 (by decide +kernel) (by decide +kernel), tb_in 6 (by decide +kernel) (by decide +kernel), tyX8_ok, by decide +kernel⟩
theorem e_X5_init_30 : DC cX5_init 30 1 31 (.dup) := ⟨by decide +kernel, rfl⟩
theorem e_X5_init_31 : DC cX5_init 31 3 34 (.invokespecial 23) := ⟨by decide +kernel, rfl⟩
theorem cb_X8_init : CB yX8_init cX8_init 1 none 0 := ⟨tb_in 94 (by decide +kernel) (by decide +kernel), tb_in 6 (by decide +kernel) (by decide +kernel), by decide +kernel⟩
theorem im_X8_init : Cond.instanceMethod yX8_init ∈ tb := tb_in 93 (by decide +kernel) (by decide +kernel)
theorem e_X5_init_34 : DC cX5_init 34 3 37 (.putfield 24) := ⟨by decide +kernel, rfl⟩
theorem fp_X5_24 : FP RX5 24 3 15 true (.object "LeaseLedger$Row") := ⟨RX5, TX5, 18, tyX5, rfl, by decide, uw_3, tb_in 153 (by decide +kernel) (by decide +kernel), rfl, rfl, by decide +kernel, tyX5_ok, nmX5⟩
theorem e_X5_init_37 : DC cX5_init 37 1 38 (.aload_n 0) := ⟨by decide +kernel, rfl⟩
theorem e_X5_init_38 : DC cX5_init 38 3 41 (.new 21) := ⟨by decide +kernel, rfl⟩
theorem e_X5_init_41 : DC cX5_init 41 1 42 (.dup) := ⟨by decide +kernel, rfl⟩
theorem e_X5_init_42 : DC cX5_init 42 3 45 (.invokespecial 23) := ⟨by decide +kernel, rfl⟩
theorem e_X5_init_45 : DC cX5_init 45 3 48 (.putfield 28) := ⟨by decide +kernel, rfl⟩
theorem fp_X5_28 : FP RX5 28 3 16 true (.object "LeaseLedger$Row") := ⟨RX5, TX5, 18, tyX5, rfl, by decide, uw_3, tb_in 156 (by decide +kernel) (by decide +kernel), rfl, rfl, by decide +kernel, tyX5_ok, nmX5⟩
theorem e_X5_init_48 : DC cX5_init 48 1 49 (.aload_n 0) := ⟨by decide +kernel, rfl⟩
theorem e_X5_init_49 : DC cX5_init 49 1 50 (.iconst 5) := ⟨by decide +kernel, rfl⟩
theorem e_X5_init_50 : DC cX5_init 50 2 52 (.newarray .long) := ⟨by decide +kernel, rfl⟩
theorem e_X5_init_52 : DC cX5_init 52 3 55 (.putfield 31) := ⟨by decide +kernel, rfl⟩
theorem fp_X5_31 : FP RX5 31 3 17 true (.array .long) := ⟨RX5, TX5, 18, tyX5, rfl, by decide, uw_3, tb_in 157 (by decide +kernel) (by decide +kernel), rfl, rfl, by decide +kernel, tyX5_ok, nmX5⟩
theorem e_X5_init_55 : DC cX5_init 55 1 56 (.return_) := ⟨by decide +kernel, rfl⟩
set_option maxRecDepth 20000 in
theorem k_Amount_init (l : Launch) (V : VX) (N : Nat) (σ : Mem) (a : Nat)  : Ct l V yX1_init cX1_init 1 none 1 0 0 N σ [.ref a] (fun r τ => r = none ∧ τ = σ) := by
  refine Ct.of (by decide) (Nat.le_of_ble_eq_true rfl) [(0, .ref a)] rfl (fun X hX F hQ => ?_)
  refine m_aload_n F rfl e_X1_init_0 ?_
  refine m_objInit F e_X1_init_1 ml_X1_1 im_obj co_obj (Nat.le_of_ble_eq_true rfl) (Nat.le_of_ble_eq_true rfl) ?_
  exact m_vret F hQ e_X1_init_4 (⟨rfl, rfl⟩)
set_option maxRecDepth 20000 in
theorem k_Option_init (l : Launch) (V : VX) (N : Nat) (σ : Mem) (a : Nat)  : Ct l V yX6_init cX6_init 1 none 1 0 0 N σ [.ref a] (fun r τ => r = none ∧ τ = σ) := by
  refine Ct.of (by decide) (Nat.le_of_ble_eq_true rfl) [(0, .ref a)] rfl (fun X hX F hQ => ?_)
  refine m_aload_n F rfl e_X6_init_0 ?_
  refine m_objInit F e_X6_init_1 ml_X6_1 im_obj co_obj (Nat.le_of_ble_eq_true rfl) (Nat.le_of_ble_eq_true rfl) ?_
  exact m_vret F hQ e_X6_init_4 (⟨rfl, rfl⟩)
set_option maxRecDepth 20000 in
theorem k_Row_init (l : Launch) (V : VX) (N : Nat) (σ : Mem) (a : Nat) (ha : a < N) (h0 : σ a = some (ob 6 [.null, .null, .null])) : Ct l V yX8_init cX8_init 1 none 2 3 146 N σ [.ref a] (fun r τ => r = none ∧ τ a = some (ob 6 [.ref N, .ref (N + 1), .ref (N + 2)]) ∧ τ N = some (aJ V 72 (fun _ => 0)) ∧ τ (N + 1) = some (aJ V 72 (fun _ => 0)) ∧ τ (N + 2) = some (ob 0 [.long 0, .long 0]) ∧ ∀ q : Nat, q ≠ a → q < N → τ q = σ q) := by
  refine Ct.of (by decide) (Nat.le_of_ble_eq_true rfl) [(0, .ref a)] rfl (fun X hX F hQ => ?_)
  refine m_aload_n F rfl e_X8_init_0 ?_
  refine m_objInit F e_X8_init_1 ml_X8_3 im_obj co_obj (Nat.le_of_ble_eq_true rfl) (Nat.le_of_ble_eq_true rfl) ?_
  refine m_aload_n F rfl e_X8_init_4 ?_
  refine m_bipush F (v := 72) (by decide) e_X8_init_5 ?_
  refine m_newJ F (len := 72) e_X8_init_7 arr_long (by decide) (by decide) (by decide) (k' := 1) (z' := 72) (N' := N + 1) rfl rfl rfl (Nat.le_of_ble_eq_true rfl) (Nat.le_of_ble_eq_true rfl) ?_
  refine m_putF F e_X8_init_9 fp_X8_9 rfl rfl (ru_ne (by omega) h0) rfl rfl (Nat.le_of_ble_eq_true rfl) (fs' := [.ref N, .null, .null]) rfl rfl ?_
  refine m_aload_n F rfl e_X8_init_12 ?_
  refine m_bipush F (v := 72) (by decide) e_X8_init_13 ?_
  refine m_newJ F (len := 72) e_X8_init_15 arr_long (by decide) (by decide) (by decide) (k' := 2) (z' := 144) (N' := N + 2) rfl rfl rfl (Nat.le_of_ble_eq_true rfl) (Nat.le_of_ble_eq_true rfl) ?_
  refine m_putF F e_X8_init_17 fp_X8_15 rfl rfl (ru_ne (by omega) ru_eq) rfl rfl (Nat.le_of_ble_eq_true rfl) (fs' := [.ref N, .ref (N + 1), .null]) rfl rfl ?_
  refine m_aload_n F rfl e_X8_init_20 ?_
  refine m_new F e_X8_init_21 fn_X8_18 (k' := 3) (z' := 146) (N' := N + 3) rfl rfl rfl (Nat.le_of_ble_eq_true rfl) (Nat.le_of_ble_eq_true rfl) ?_
  refine m_dup F rfl e_X8_init_24 ?_
  refine m_callIN F e_X8_init_25 (k_Amount_init (x_l X) V _ _ (N + 2)) cb_X1_init (by simp [nestW, yX8_init]) im_X1_init rfl rfl (rest := [.ref (N + 2), .ref a]) rfl (Nat.le_of_ble_eq_true rfl) ⟨Nat.le_of_ble_eq_true rfl, Nat.le_of_ble_eq_true rfl⟩ ⟨Nat.le_of_ble_eq_true rfl, Nat.le_of_ble_eq_true rfl⟩ (k' := 3) (z' := 146) (N' := N + 3) rfl rfl rfl (fun r τ hp => ?_)
  obtain ⟨rfl, rfl⟩ := hp
  refine m_putF F e_X8_init_28 fp_X8_21 rfl rfl (ru_ne (by omega) ru_eq) rfl rfl (Nat.le_of_ble_eq_true rfl) (fs' := [.ref N, .ref (N + 1), .ref (N + 2)]) rfl rfl ?_
  exact m_vret F hQ e_X8_init_31 (⟨rfl, ru_eq, (ru_ne (by omega) (ru_ne (by omega) (ru_ne (by omega) (ru_ne (by omega) (ru_ne (by omega) ru_eq))))), (ru_ne (by omega) (ru_ne (by omega) (ru_ne (by omega) ru_eq))), (ru_ne (by omega) ru_eq), fun q h1 h2 => (ru_ne (by omega) (ru_ne (by omega) (ru_ne (by omega) (ru_ne (by omega) (ru_ne (by omega) (ru_ne (by omega) rfl))))))⟩)
set_option maxRecDepth 20000 in
theorem k_Journal_init (l : Launch) (V : VX) (N : Nat) (σ : Mem) (a : Nat) (ha : a < N) (h0 : σ a = some (ob 2 [.null, .null, .int 0])) : Ct l V yX3_init cX3_init 1 none 1 2 366 N σ [.ref a] (fun r τ => r = none ∧ τ a = some (ob 2 [.ref N, .ref (N + 1), .int 0]) ∧ τ N = some (aJ V 360 (fun _ => 0)) ∧ τ (N + 1) = some (aJ V 6 (fun _ => 0)) ∧ ∀ q : Nat, q ≠ a → q < N → τ q = σ q) := by
  refine Ct.of (by decide) (Nat.le_of_ble_eq_true rfl) [(0, .ref a)] rfl (fun X hX F hQ => ?_)
  refine m_aload_n F rfl e_X3_init_0 ?_
  refine m_objInit F e_X3_init_1 ml_X3_5 im_obj co_obj (Nat.le_of_ble_eq_true rfl) (Nat.le_of_ble_eq_true rfl) ?_
  refine m_aload_n F rfl e_X3_init_4 ?_
  refine m_sipush F (v := 360) (by decide) e_X3_init_5 ?_
  refine m_newJ F (len := 360) e_X3_init_8 arr_long (by decide) (by decide) (by decide) (k' := 1) (z' := 360) (N' := N + 1) rfl rfl rfl (Nat.le_of_ble_eq_true rfl) (Nat.le_of_ble_eq_true rfl) ?_
  refine m_putF F e_X3_init_10 fp_X3_11 rfl rfl (ru_ne (by omega) h0) rfl rfl (Nat.le_of_ble_eq_true rfl) (fs' := [.ref N, .null, .int 0]) rfl rfl ?_
  refine m_aload_n F rfl e_X3_init_13 ?_
  refine m_bipush F (v := 6) (by decide) e_X3_init_14 ?_
  refine m_newJ F (len := 6) e_X3_init_16 arr_long (by decide) (by decide) (by decide) (k' := 2) (z' := 366) (N' := N + 2) rfl rfl rfl (Nat.le_of_ble_eq_true rfl) (Nat.le_of_ble_eq_true rfl) ?_
  refine m_putF F e_X3_init_18 fp_X3_15 rfl rfl (ru_ne (by omega) ru_eq) rfl rfl (Nat.le_of_ble_eq_true rfl) (fs' := [.ref N, .ref (N + 1), .int 0]) rfl rfl ?_
  exact m_vret F hQ e_X3_init_21 (⟨rfl, ru_eq, (ru_ne (by omega) (ru_ne (by omega) (ru_ne (by omega) ru_eq))), (ru_ne (by omega) ru_eq), fun q h1 h2 => (ru_ne (by omega) (ru_ne (by omega) (ru_ne (by omega) (ru_ne (by omega) rfl))))⟩)
set_option maxRecDepth 20000 in
theorem k_Lease_init (l : Launch) (V : VX) (N : Nat) (σ : Mem) (a : Nat) (ha : a < N) (h0 : σ a = some (ob 3 [.int 0, .int 0, .int 0, .int 0, .int 0, .int 0, .int 0, .int 0, .int 0, .int 0, .int 0, .int 0, .int 0, .null, .null, .null, .null, .null])) : Ct l V yX5_init cX5_init 1 none 3 11 307 N σ [.ref a] (fun r τ => r = none ∧ τ a = some (ob 3 [.int 0, .int 0, .int 0, .int 0, .int 0, .int 0, .int 0, .int 0, .int 0, .int 0, .int 0, .int 0, .int 0, .ref N, .ref (N + 1), .ref (N + 2), .ref (N + 6), .ref (N + 10)]) ∧ τ N = some (ob 0 [.long 0, .long 0]) ∧ τ (N + 1) = some (ob 0 [.long 0, .long 0]) ∧ τ (N + 2) = some (ob 6 [.ref (N + 3), .ref (N + 4), .ref (N + 5)]) ∧ τ (N + 3) = some (aJ V 72 (fun _ => 0)) ∧ τ (N + 4) = some (aJ V 72 (fun _ => 0)) ∧ τ (N + 5) = some (ob 0 [.long 0, .long 0]) ∧ τ (N + 6) = some (ob 6 [.ref (N + 7), .ref (N + 8), .ref (N + 9)]) ∧ τ (N + 7) = some (aJ V 72 (fun _ => 0)) ∧ τ (N + 8) = some (aJ V 72 (fun _ => 0)) ∧ τ (N + 9) = some (ob 0 [.long 0, .long 0]) ∧ τ (N + 10) = some (aJ V 5 (fun _ => 0)) ∧ ∀ q : Nat, q ≠ a → q < N → τ q = σ q) := by
  refine Ct.of (by decide) (Nat.le_of_ble_eq_true rfl) [(0, .ref a)] rfl (fun X hX F hQ => ?_)
  refine m_aload_n F rfl e_X5_init_0 ?_
  refine m_objInit F e_X5_init_1 ml_X5_3 im_obj co_obj (Nat.le_of_ble_eq_true rfl) (Nat.le_of_ble_eq_true rfl) ?_
  refine m_aload_n F rfl e_X5_init_4 ?_
  refine m_new F e_X5_init_5 fn_X5_9 (k' := 1) (z' := 2) (N' := N + 1) rfl rfl rfl (Nat.le_of_ble_eq_true rfl) (Nat.le_of_ble_eq_true rfl) ?_
  refine m_dup F rfl e_X5_init_8 ?_
  refine m_callIN F e_X5_init_9 (k_Amount_init (x_l X) V _ _ N) cb_X1_init (by simp [nestW, yX5_init]) im_X1_init rfl rfl (rest := [.ref N, .ref a]) rfl (Nat.le_of_ble_eq_true rfl) ⟨Nat.le_of_ble_eq_true rfl, Nat.le_of_ble_eq_true rfl⟩ ⟨Nat.le_of_ble_eq_true rfl, Nat.le_of_ble_eq_true rfl⟩ (k' := 1) (z' := 2) (N' := N + 1) rfl rfl rfl (fun r τ hp => ?_)
  obtain ⟨rfl, rfl⟩ := hp
  refine m_putF F e_X5_init_12 fp_X5_12 rfl rfl (ru_ne (by omega) h0) rfl rfl (Nat.le_of_ble_eq_true rfl) (fs' := [.int 0, .int 0, .int 0, .int 0, .int 0, .int 0, .int 0, .int 0, .int 0, .int 0, .int 0, .int 0, .int 0, .ref N, .null, .null, .null, .null]) rfl rfl ?_
  refine m_aload_n F rfl e_X5_init_15 ?_
  refine m_new F e_X5_init_16 fn_X5_9 (k' := 2) (z' := 4) (N' := N + 2) rfl rfl rfl (Nat.le_of_ble_eq_true rfl) (Nat.le_of_ble_eq_true rfl) ?_
  refine m_dup F rfl e_X5_init_19 ?_
  refine m_callIN F e_X5_init_20 (k_Amount_init (x_l X) V _ _ (N + 1)) cb_X1_init (by simp [nestW, yX5_init]) im_X1_init rfl rfl (rest := [.ref (N + 1), .ref a]) rfl (Nat.le_of_ble_eq_true rfl) ⟨Nat.le_of_ble_eq_true rfl, Nat.le_of_ble_eq_true rfl⟩ ⟨Nat.le_of_ble_eq_true rfl, Nat.le_of_ble_eq_true rfl⟩ (k' := 2) (z' := 4) (N' := N + 2) rfl rfl rfl (fun r τ hp => ?_)
  obtain ⟨rfl, rfl⟩ := hp
  refine m_putF F e_X5_init_23 fp_X5_18 rfl rfl (ru_ne (by omega) ru_eq) rfl rfl (Nat.le_of_ble_eq_true rfl) (fs' := [.int 0, .int 0, .int 0, .int 0, .int 0, .int 0, .int 0, .int 0, .int 0, .int 0, .int 0, .int 0, .int 0, .ref N, .ref (N + 1), .null, .null, .null]) rfl rfl ?_
  refine m_aload_n F rfl e_X5_init_26 ?_
  refine m_new F e_X5_init_27 fn_X5_21 (k' := 3) (z' := 7) (N' := N + 3) rfl rfl rfl (Nat.le_of_ble_eq_true rfl) (Nat.le_of_ble_eq_true rfl) ?_
  refine m_dup F rfl e_X5_init_30 ?_
  refine m_callIN F e_X5_init_31 (k_Row_init (x_l X) V (N + 3) _ (N + 2) (by omega) ru_eq) cb_X8_init (by simp [nestW, yX5_init]) im_X8_init rfl rfl (rest := [.ref (N + 2), .ref a]) rfl (Nat.le_of_ble_eq_true rfl) ⟨Nat.le_of_ble_eq_true rfl, Nat.le_of_ble_eq_true rfl⟩ ⟨Nat.le_of_ble_eq_true rfl, Nat.le_of_ble_eq_true rfl⟩ (k' := 6) (z' := 153) (N' := N + 6) rfl rfl rfl (fun r τ1 hp => ?_)
  obtain ⟨rfl, h2, h3, h4, h5, hf6⟩ := hp
  have g7 : τ1 a = some (ob 3 [.int 0, .int 0, .int 0, .int 0, .int 0, .int 0, .int 0, .int 0, .int 0, .int 0, .int 0, .int 0, .int 0, .ref N, .ref (N + 1), .null, .null, .null]) := (hf6 a (by omega) (by omega)).trans (ru_ne (by omega) ru_eq)
  have g8 : τ1 N = some (ob 0 [.long 0, .long 0]) := (hf6 N (by omega) (by omega)).trans (ru_ne (by omega) (ru_ne (by omega) (ru_ne (by omega) (ru_ne (by omega) ru_eq))))
  have g9 : τ1 (N + 1) = some (ob 0 [.long 0, .long 0]) := (hf6 (N + 1) (by omega) (by omega)).trans (ru_ne (by omega) (ru_ne (by omega) ru_eq))
  have fr10 : ∀ q : Nat, q ≠ a → q < N → τ1 q = σ q := fun q h1 h2 => (hf6 q (by omega) (by omega)).trans (ru_ne (by omega) (ru_ne (by omega) (ru_ne (by omega) (ru_ne (by omega) (ru_ne (by omega) rfl)))))
  refine m_putF F e_X5_init_34 fp_X5_24 rfl rfl g7 rfl rfl (Nat.le_of_ble_eq_true rfl) (fs' := [.int 0, .int 0, .int 0, .int 0, .int 0, .int 0, .int 0, .int 0, .int 0, .int 0, .int 0, .int 0, .int 0, .ref N, .ref (N + 1), .ref (N + 2), .null, .null]) rfl rfl ?_
  refine m_aload_n F rfl e_X5_init_37 ?_
  refine m_new F e_X5_init_38 fn_X5_21 (k' := 7) (z' := 156) (N' := N + 7) rfl rfl rfl (Nat.le_of_ble_eq_true rfl) (Nat.le_of_ble_eq_true rfl) ?_
  refine m_dup F rfl e_X5_init_41 ?_
  refine m_callIN F e_X5_init_42 (k_Row_init (x_l X) V (N + 7) _ (N + 6) (by omega) ru_eq) cb_X8_init (by simp [nestW, yX5_init]) im_X8_init rfl rfl (rest := [.ref (N + 6), .ref a]) rfl (Nat.le_of_ble_eq_true rfl) ⟨Nat.le_of_ble_eq_true rfl, Nat.le_of_ble_eq_true rfl⟩ ⟨Nat.le_of_ble_eq_true rfl, Nat.le_of_ble_eq_true rfl⟩ (k' := 10) (z' := 302) (N' := N + 10) rfl rfl rfl (fun r τ11 hp => ?_)
  obtain ⟨rfl, h12, h13, h14, h15, hf16⟩ := hp
  have g17 : τ11 a = some (ob 3 [.int 0, .int 0, .int 0, .int 0, .int 0, .int 0, .int 0, .int 0, .int 0, .int 0, .int 0, .int 0, .int 0, .ref N, .ref (N + 1), .ref (N + 2), .null, .null]) := (hf16 a (by omega) (by omega)).trans (ru_ne (by omega) ru_eq)
  have g18 : τ11 N = some (ob 0 [.long 0, .long 0]) := (hf16 N (by omega) (by omega)).trans (ru_ne (by omega) (ru_ne (by omega) g8))
  have g19 : τ11 (N + 1) = some (ob 0 [.long 0, .long 0]) := (hf16 (N + 1) (by omega) (by omega)).trans (ru_ne (by omega) (ru_ne (by omega) g9))
  have g20 : τ11 (N + 2) = some (ob 6 [.ref (N + 3), .ref (N + 4), .ref (N + 5)]) := (hf16 (N + 2) (by omega) (by omega)).trans (ru_ne (by omega) (ru_ne (by omega) h2))
  have g21 : τ11 (N + 3) = some (aJ V 72 (fun _ => 0)) := (hf16 (N + 3) (by omega) (by omega)).trans (ru_ne (by omega) (ru_ne (by omega) h3))
  have g22 : τ11 (N + 4) = some (aJ V 72 (fun _ => 0)) := (hf16 (N + 4) (by omega) (by omega)).trans (ru_ne (by omega) (ru_ne (by omega) h4))
  have g23 : τ11 (N + 5) = some (ob 0 [.long 0, .long 0]) := (hf16 (N + 5) (by omega) (by omega)).trans (ru_ne (by omega) (ru_ne (by omega) h5))
  have fr24 : ∀ q : Nat, q ≠ a → q < N → τ11 q = σ q := fun q h1 h2 => (hf16 q (by omega) (by omega)).trans (ru_ne (by omega) (ru_ne (by omega) (fr10 q h1 h2)))
  refine m_putF F e_X5_init_45 fp_X5_28 rfl rfl g17 rfl rfl (Nat.le_of_ble_eq_true rfl) (fs' := [.int 0, .int 0, .int 0, .int 0, .int 0, .int 0, .int 0, .int 0, .int 0, .int 0, .int 0, .int 0, .int 0, .ref N, .ref (N + 1), .ref (N + 2), .ref (N + 6), .null]) rfl rfl ?_
  refine m_aload_n F rfl e_X5_init_48 ?_
  refine m_iconst F (v := 5) (by decide) e_X5_init_49 ?_
  refine m_newJ F (len := 5) e_X5_init_50 arr_long (by decide) (by decide) (by decide) (k' := 11) (z' := 307) (N' := N + 11) rfl rfl rfl (Nat.le_of_ble_eq_true rfl) (Nat.le_of_ble_eq_true rfl) ?_
  refine m_putF F e_X5_init_52 fp_X5_31 rfl rfl (ru_ne (by omega) ru_eq) rfl rfl (Nat.le_of_ble_eq_true rfl) (fs' := [.int 0, .int 0, .int 0, .int 0, .int 0, .int 0, .int 0, .int 0, .int 0, .int 0, .int 0, .int 0, .int 0, .ref N, .ref (N + 1), .ref (N + 2), .ref (N + 6), .ref (N + 10)]) rfl rfl ?_
  exact m_vret F hQ e_X5_init_55 (⟨rfl, ru_eq, (ru_ne (by omega) (ru_ne (by omega) (ru_ne (by omega) g18))), (ru_ne (by omega) (ru_ne (by omega) (ru_ne (by omega) g19))), (ru_ne (by omega) (ru_ne (by omega) (ru_ne (by omega) g20))), (ru_ne (by omega) (ru_ne (by omega) (ru_ne (by omega) g21))), (ru_ne (by omega) (ru_ne (by omega) (ru_ne (by omega) g22))), (ru_ne (by omega) (ru_ne (by omega) (ru_ne (by omega) g23))), (ru_ne (by omega) (ru_ne (by omega) (ru_ne (by omega) h12))), (ru_ne (by omega) (ru_ne (by omega) (ru_ne (by omega) h13))), (ru_ne (by omega) (ru_ne (by omega) (ru_ne (by omega) h14))), (ru_ne (by omega) (ru_ne (by omega) (ru_ne (by omega) h15))), (ru_ne (by omega) ru_eq), fun q h1 h2 => (ru_ne (by omega) (ru_ne (by omega) (ru_ne (by omega) (fr24 q h1 h2))))⟩)
end
section
theorem arrV_cong {c : ClassId} {n : Nat} {f g : Nat → Value} (h : ∀ j, j < n → f j = g j) : arrV c n f = arrV c n g := by
  unfold arrV
  congr 1
  congr 1
  funext j
  exact h j.val j.isLt
theorem reI {V : VX} {X : MX} {nL N k z pc : Nat} {σ : Mem} {lv : List (Nat × Value)} {st : List Value} {a n : Nat} {f g : Nat → Int32} (hg : ∀ j, j < n → f j = g j) (h : Wm V X nL N (va_up σ a (some (aI V n g))) k z pc lv st) : Wm V X nL N (va_up σ a (some (aI V n f))) k z pc lv st := by
  intro H locs ls h1 h2 h3
  refine h H locs ls ⟨h1.1, h1.2.1, h1.2.2.1, fun b e hb => ?_⟩ h2 h3
  by_cases hba : b = a
  · subst hba
    rw [va_up_self] at hb
    cases hb
    have h4 := h1.2.2.2 b _ (va_up_self _ _ _)
    refine ⟨h4.1, ?_⟩
    have h5 : H[b]? = some (vp_cell _ _) := h4.2
    show H[b]? = some (vp_cell _ _)
    rw [h5, vp_cell_i, vp_cell_i, arrV_cong (fun j hj => by rw [hg j hj])]
  · rw [va_up_ne _ _ hba] at hb
    exact h1.2.2.2 b e (by rw [va_up_ne _ _ hba]; exact hb)
theorem reJ {V : VX} {X : MX} {nL N k z pc : Nat} {σ : Mem} {lv : List (Nat × Value)} {st : List Value} {a n : Nat} {f g : Nat → Int64} (hg : ∀ j, j < n → f j = g j) (h : Wm V X nL N (va_up σ a (some (aJ V n g))) k z pc lv st) : Wm V X nL N (va_up σ a (some (aJ V n f))) k z pc lv st := by
  intro H locs ls h1 h2 h3
  refine h H locs ls ⟨h1.1, h1.2.1, h1.2.2.1, fun b e hb => ?_⟩ h2 h3
  by_cases hba : b = a
  · subst hba
    rw [va_up_self] at hb
    cases hb
    have h4 := h1.2.2.2 b _ (va_up_self _ _ _)
    refine ⟨h4.1, ?_⟩
    have h5 : H[b]? = some (vp_cell _ _) := h4.2
    show H[b]? = some (vp_cell _ _)
    rw [h5, vp_cell_l, vp_cell_l, arrV_cong (fun j hj => by rw [hg j hj])]
  · rw [va_up_ne _ _ hba] at hb
    exact h1.2.2.2 b e (by rw [va_up_ne _ _ hba]; exact hb)
def fillI (f : Nat → Int32) (v : Int32) (lo i : Nat) : Nat → Int32 := fun j => if lo ≤ j ∧ j < i then v else f j
def fillJ (f : Nat → Int64) (v : Int64) (lo i : Nat) : Nat → Int64 := fun j => if lo ≤ j ∧ j < i then v else f j
theorem fillI_upd {f : Nat → Int32} {v : Int32} {lo i : Nat} (h : lo ≤ i) : upd (fillI f v lo i) i v = fillI f v lo (i + 1) := by
  funext j
  simp only [upd, fillI]
  by_cases h1 : j = i
  · subst h1; rw [if_pos rfl, if_pos ⟨h, Nat.lt_succ_self _⟩]
  · rw [if_neg h1]
    by_cases h2 : lo ≤ j ∧ j < i
    · rw [if_pos h2, if_pos ⟨h2.1, by omega⟩]
    · rw [if_neg h2, if_neg (by omega)]
theorem fillJ_upd {f : Nat → Int64} {v : Int64} {lo i : Nat} (h : lo ≤ i) : vp_updL (fillJ f v lo i) i v = fillJ f v lo (i + 1) := by
  funext j
  simp only [vp_updL, fillJ]
  by_cases h1 : j = i
  · subst h1; rw [if_pos rfl, if_pos ⟨h, Nat.lt_succ_self _⟩]
  · rw [if_neg h1]
    by_cases h2 : lo ≤ j ∧ j < i
    · rw [if_pos h2, if_pos ⟨h2.1, by omega⟩]
    · rw [if_neg h2, if_neg (by omega)]
theorem fillI_0 {f : Nat → Int32} {v : Int32} {lo : Nat} : fillI f v lo lo = f := by
  funext j; simp only [fillI]; rw [if_neg (by omega)]
theorem fillJ_0 {f : Nat → Int64} {v : Int64} {lo : Nat} : fillJ f v lo lo = f := by
  funext j; simp only [fillJ]; rw [if_neg (by omega)]
theorem up_self {σ : Mem} {a : Nat} {e : va_E} (h : σ a = some e) : σ = va_up σ a (some e) := by
  funext q
  by_cases hq : q = a
  · subst hq; rw [va_up_self]; exact h
  · rw [va_up_ne _ _ hq]
abbrev cJ7_fill_53178 : ByteArray := prog_35_method_103_code
def yJ7_fill_53178 : MethodName := ⟨RJ7, "fill", "([II)V"⟩
abbrev cJ7_fill_d0a16 : ByteArray := prog_35_method_101_code
def yJ7_fill_d0a16 : MethodName := ⟨RJ7, "fill", "([JJ)V"⟩
theorem e_J7_fill_53178_5 : DC cJ7_fill_53178 5 1 6 (.iload_n 2) := ⟨by decide +kernel, rfl⟩
theorem e_J7_fill_53178_6 : DC cJ7_fill_53178 6 1 7 (.iload_n 3) := ⟨by decide +kernel, rfl⟩
theorem e_J7_fill_53178_7 : DJ cJ7_fill_53178 7 20 10 (.if_icmp .ge) := DJ.mk 13 (by decide +kernel) (by decide) rfl
theorem e_J7_fill_53178_20 : DC cJ7_fill_53178 20 1 21 (.return_) := ⟨by decide +kernel, rfl⟩
theorem e_J7_fill_53178_10 : DC cJ7_fill_53178 10 1 11 (.aload_n 0) := ⟨by decide +kernel, rfl⟩
theorem e_J7_fill_53178_11 : DC cJ7_fill_53178 11 1 12 (.iload_n 2) := ⟨by decide +kernel, rfl⟩
theorem e_J7_fill_53178_12 : DC cJ7_fill_53178 12 1 13 (.iload_n 1) := ⟨by decide +kernel, rfl⟩
theorem e_J7_fill_53178_13 : DC cJ7_fill_53178 13 1 14 (.iastore) := ⟨by decide +kernel, rfl⟩
theorem e_J7_fill_53178_14 : DC cJ7_fill_53178 14 3 17 (.iinc 2 1) := ⟨by decide +kernel, rfl⟩
theorem e_J7_fill_53178_17 : DJ cJ7_fill_53178 17 5 20 .goto := DJ.mk (-12) (by decide +kernel) (by decide) rfl
theorem e_J7_fill_53178_0 : DC cJ7_fill_53178 0 1 1 (.iconst 0) := ⟨by decide +kernel, rfl⟩
theorem e_J7_fill_53178_1 : DC cJ7_fill_53178 1 1 2 (.istore_n 2) := ⟨by decide +kernel, rfl⟩
theorem e_J7_fill_53178_2 : DC cJ7_fill_53178 2 1 3 (.aload_n 0) := ⟨by decide +kernel, rfl⟩
theorem e_J7_fill_53178_3 : DC cJ7_fill_53178 3 1 4 (.arraylength) := ⟨by decide +kernel, rfl⟩
theorem e_J7_fill_53178_4 : DC cJ7_fill_53178 4 1 5 (.istore_n 3) := ⟨by decide +kernel, rfl⟩
theorem e_J7_fill_d0a16_6 : DC cJ7_fill_d0a16 6 1 7 (.iload_n 3) := ⟨by decide +kernel, rfl⟩
theorem e_J7_fill_d0a16_7 : DC cJ7_fill_d0a16 7 2 9 (.iload 4) := ⟨by decide +kernel, rfl⟩
theorem e_J7_fill_d0a16_9 : DJ cJ7_fill_d0a16 9 22 12 (.if_icmp .ge) := DJ.mk 13 (by decide +kernel) (by decide) rfl
theorem e_J7_fill_d0a16_22 : DC cJ7_fill_d0a16 22 1 23 (.return_) := ⟨by decide +kernel, rfl⟩
theorem e_J7_fill_d0a16_12 : DC cJ7_fill_d0a16 12 1 13 (.aload_n 0) := ⟨by decide +kernel, rfl⟩
theorem e_J7_fill_d0a16_13 : DC cJ7_fill_d0a16 13 1 14 (.iload_n 3) := ⟨by decide +kernel, rfl⟩
theorem e_J7_fill_d0a16_14 : DC cJ7_fill_d0a16 14 1 15 (.lload_n 1) := ⟨by decide +kernel, rfl⟩
theorem e_J7_fill_d0a16_15 : DC cJ7_fill_d0a16 15 1 16 (.lastore) := ⟨by decide +kernel, rfl⟩
theorem e_J7_fill_d0a16_16 : DC cJ7_fill_d0a16 16 3 19 (.iinc 3 1) := ⟨by decide +kernel, rfl⟩
theorem e_J7_fill_d0a16_19 : DJ cJ7_fill_d0a16 19 6 22 .goto := DJ.mk (-13) (by decide +kernel) (by decide) rfl
theorem e_J7_fill_d0a16_0 : DC cJ7_fill_d0a16 0 1 1 (.iconst 0) := ⟨by decide +kernel, rfl⟩
theorem e_J7_fill_d0a16_1 : DC cJ7_fill_d0a16 1 1 2 (.istore_n 3) := ⟨by decide +kernel, rfl⟩
theorem e_J7_fill_d0a16_2 : DC cJ7_fill_d0a16 2 1 3 (.aload_n 0) := ⟨by decide +kernel, rfl⟩
theorem e_J7_fill_d0a16_3 : DC cJ7_fill_d0a16 3 1 4 (.arraylength) := ⟨by decide +kernel, rfl⟩
theorem e_J7_fill_d0a16_4 : DC cJ7_fill_d0a16 4 2 6 (.istore 4) := ⟨by decide +kernel, rfl⟩
theorem lp_fillI {V : VX} {X : MX} {N : Nat} {σ : Mem} {Post : Option Value → Mem → Prop} (F : Fx V X yJ7_fill_53178 cJ7_fill_53178 4 none (rmd 0 0 0)) (hQ : Rt V X 0 0 N Post) {a len : Nat} {f : Nat → Int32} {v : Int32} (hlen : len < 2 ^ 31) (hp : Post none (va_up σ a (some (aI V len (fillI f v 0 len))))) : ∀ n i : Nat, i ≤ len → len - i < n → Wm V X 4 N (va_up σ a (some (aI V len (fillI f v 0 i)))) 0 0 5 [(2, .int (nI i)), (3, .int (nI len)), (0, .ref a), (1, .int v)] [] := by
  intro n
  induction n with
  | zero => intro i h1 h2; exact absurd h2 (by omega)
  | succ n ih =>
    intro i h1 h2
    refine m_iload_n F rfl e_J7_fill_53178_5 ?_
    refine m_iload_n F rfl e_J7_fill_53178_6 ?_
    refine m_icmp_ge F e_J7_fill_53178_7 (fun q7 => ?_) (fun q7 => ?_)
    · have c7 : i ≥ len := (nI_leI (a := len) (b := i) (by omega) (by omega)).mp q7
      have hi : i = len := by omega
      subst hi
      exact m_vret F hQ e_J7_fill_53178_20 (hp)
    · have c7 : i < len := by have hh := mt (nI_leI (a := len) (b := i) (by omega) (by omega)).mpr q7; omega
      refine m_aload_n F rfl e_J7_fill_53178_10 ?_
      refine m_iload_n F rfl e_J7_fill_53178_11 ?_
      refine m_iload_n F rfl e_J7_fill_53178_12 ?_
      refine m_iast F (j := i) e_J7_fill_53178_13 ru_eq (nI_clamp (by omega)) (vp_in_nI (by omega) (by omega)) rfl (bx_uu _ _ _ _) ?_
      refine m_iinc F (v := nI (i + 1)) (lv' := [(2, .int (nI (i + 1))), (3, .int (nI len)), (0, .ref a), (1, .int v)]) e_J7_fill_53178_14 rfl (nI_add i 1) (by decide) rfl ?_
      refine m_goto F e_J7_fill_53178_17 ?_
      refine Wm.memE (congrArg (fun g => va_up σ a (some (aI V len g))) (fillI_upd (by omega))) ?_
      exact ih (i + 1) (by omega) (by omega)
set_option maxRecDepth 20000 in
theorem k_fillI (l : Launch) (V : VX) (N : Nat) (σ : Mem) (a len : Nat) (f : Nat → Int32) (v : Int32) (hlen : len < 2 ^ 31) (h0 : σ a = some (aI V len f)) : Ct l V yJ7_fill_53178 cJ7_fill_53178 4 none 0 0 0 N σ [.ref a, .int v] (fun r τ => r = none ∧ τ = va_up σ a (some (aI V len (fillI f v 0 len)))) := by
  refine Ct.of (by decide) (Nat.le_of_ble_eq_true rfl) [(0, .ref a), (1, .int v)] rfl (fun X hX F hQ => ?_)
  refine m_iconst F (v := 0) (by decide) e_J7_fill_53178_0 ?_
  refine m_istore_n F (lv' := [(2, .int 0), (0, .ref a), (1, .int v)]) e_J7_fill_53178_1 (by decide) rfl ?_
  refine m_aload_n F rfl e_J7_fill_53178_2 ?_
  refine m_alen F e_J7_fill_53178_3 h0 rfl (v := nI len) rfl ?_
  refine m_istore_n F (lv' := [(3, .int (nI len)), (2, .int 0), (0, .ref a), (1, .int v)]) e_J7_fill_53178_4 (by decide) rfl ?_
  refine Wm.lvsub (lv' := [(2, .int 0), (3, .int (nI len)), (0, .ref a), (1, .int v)]) ?_ [1, 0, 2, 3] rfl
  refine Wm.memE (up_self h0) ?_
  refine Wm.memE (congrArg (fun g => va_up σ a (some (aI V len g))) (fillI_0 (lo := 0) (v := v)).symm) ?_
  exact lp_fillI F hQ hlen ⟨rfl, rfl⟩ (len + 1) 0 (by omega) (by omega)
theorem lp_fillJ {V : VX} {X : MX} {N : Nat} {σ : Mem} {Post : Option Value → Mem → Prop} (F : Fx V X yJ7_fill_d0a16 cJ7_fill_d0a16 5 none (rmd 0 0 0)) (hQ : Rt V X 0 0 N Post) {a len : Nat} {f : Nat → Int64} {v : Int64} (hlen : len < 2 ^ 31) (hp : Post none (va_up σ a (some (aJ V len (fillJ f v 0 len))))) : ∀ n i : Nat, i ≤ len → len - i < n → Wm V X 5 N (va_up σ a (some (aJ V len (fillJ f v 0 i)))) 0 0 6 [(3, .int (nI i)), (4, .int (nI len)), (0, .ref a), (1, .long v)] [] := by
  intro n
  induction n with
  | zero => intro i h1 h2; exact absurd h2 (by omega)
  | succ n ih =>
    intro i h1 h2
    refine m_iload_n F rfl e_J7_fill_d0a16_6 ?_
    refine m_iload F rfl e_J7_fill_d0a16_7 ?_
    refine m_icmp_ge F e_J7_fill_d0a16_9 (fun q9 => ?_) (fun q9 => ?_)
    · have c9 : i ≥ len := (nI_leI (a := len) (b := i) (by omega) (by omega)).mp q9
      have hi : i = len := by omega
      subst hi
      exact m_vret F hQ e_J7_fill_d0a16_22 (hp)
    · have c9 : i < len := by have hh := mt (nI_leI (a := len) (b := i) (by omega) (by omega)).mpr q9; omega
      refine m_aload_n F rfl e_J7_fill_d0a16_12 ?_
      refine m_iload_n F rfl e_J7_fill_d0a16_13 ?_
      refine m_lload_n F rfl e_J7_fill_d0a16_14 ?_
      refine m_last F (j := i) e_J7_fill_d0a16_15 ru_eq (nI_clamp (by omega)) (vp_in_nI (by omega) (by omega)) rfl (bx_uu _ _ _ _) ?_
      refine m_iinc F (v := nI (i + 1)) (lv' := [(3, .int (nI (i + 1))), (4, .int (nI len)), (0, .ref a), (1, .long v)]) e_J7_fill_d0a16_16 rfl (nI_add i 1) (by decide) rfl ?_
      refine m_goto F e_J7_fill_d0a16_19 ?_
      refine Wm.memE (congrArg (fun g => va_up σ a (some (aJ V len g))) (fillJ_upd (by omega))) ?_
      exact ih (i + 1) (by omega) (by omega)
set_option maxRecDepth 20000 in
theorem k_fillJ (l : Launch) (V : VX) (N : Nat) (σ : Mem) (a len : Nat) (f : Nat → Int64) (v : Int64) (hlen : len < 2 ^ 31) (h0 : σ a = some (aJ V len f)) : Ct l V yJ7_fill_d0a16 cJ7_fill_d0a16 5 none 0 0 0 N σ [.ref a, .long v] (fun r τ => r = none ∧ τ = va_up σ a (some (aJ V len (fillJ f v 0 len)))) := by
  refine Ct.of (by decide) (Nat.le_of_ble_eq_true rfl) [(0, .ref a), (1, .long v)] rfl (fun X hX F hQ => ?_)
  refine m_iconst F (v := 0) (by decide) e_J7_fill_d0a16_0 ?_
  refine m_istore_n F (lv' := [(3, .int 0), (0, .ref a), (1, .long v)]) e_J7_fill_d0a16_1 (by decide) rfl ?_
  refine m_aload_n F rfl e_J7_fill_d0a16_2 ?_
  refine m_alen F e_J7_fill_d0a16_3 h0 rfl (v := nI len) rfl ?_
  refine m_istore F (lv' := [(4, .int (nI len)), (3, .int 0), (0, .ref a), (1, .long v)]) e_J7_fill_d0a16_4 (by decide) rfl ?_
  refine Wm.lvsub (lv' := [(3, .int 0), (4, .int (nI len)), (0, .ref a), (1, .long v)]) ?_ [1, 0, 2, 3] rfl
  refine Wm.memE (up_self h0) ?_
  refine Wm.memE (congrArg (fun g => va_up σ a (some (aJ V len g))) (fillJ_0 (lo := 0) (v := v)).symm) ?_
  exact lp_fillJ F hQ hlen ⟨rfl, rfl⟩ (len + 1) 0 (by omega) (by omega)
end
section
def LZ (V : VX) (τ : Mem) (q : Nat) : Prop := τ q = some (ob 3 [.int 0, .int 0, .int 0, .int 0, .int 0, .int 0, .int 0, .int 0, .int 0, .int 0, .int 0, .int 0, .int 0, .ref (q + 1), .ref (q + 2), .ref (q + 3), .ref (q + 7), .ref (q + 11)]) ∧ τ (q + 1) = some (ob 0 [.long 0, .long 0]) ∧ τ (q + 2) = some (ob 0 [.long 0, .long 0]) ∧ τ (q + 3) = some (ob 6 [.ref (q + 4), .ref (q + 5), .ref (q + 6)]) ∧ τ (q + 4) = some (aJ V 72 (fun _ => 0)) ∧ τ (q + 5) = some (aJ V 72 (fun _ => 0)) ∧ τ (q + 6) = some (ob 0 [.long 0, .long 0]) ∧ τ (q + 7) = some (ob 6 [.ref (q + 8), .ref (q + 9), .ref (q + 10)]) ∧ τ (q + 8) = some (aJ V 72 (fun _ => 0)) ∧ τ (q + 9) = some (aJ V 72 (fun _ => 0)) ∧ τ (q + 10) = some (ob 0 [.long 0, .long 0]) ∧ τ (q + 11) = some (aJ V 5 (fun _ => 0))
def lfB (b : Nat) : Nat → Option Nat := va_up (va_up (va_up (va_up (fun _ => none) 0 (some (b + 11))) 1 (some (b + 23))) 2 (some (b + 35))) 3 (some (b + 47))
def ofB (b : Nat) : Nat → Option Nat := va_up (va_up (va_up (va_up (fun _ => none) 0 (some (b + 59))) 1 (some (b + 60))) 2 (some (b + 61))) 3 (some (b + 62))
/-- a book at b, but for what its leases and options hold -/
def BK (V : VX) (τ : Mem) (b : Nat) (lc oc tc pe sd tot : Int32) (ix tp : Nat → Int32) (rw ac : Nat → Int64) (p0 p1 h0 h1 t0 t1 : Int64) : Prop := τ b = some (ob 1 [.ref (b + 1), .ref (b + 2), .ref (b + 3), .ref (b + 4), .ref (b + 5), .ref (b + 8), .ref (b + 9), .ref (b + 10), .int lc, .int oc, .int tc, .int pe, .int sd]) ∧ τ (b + 1) = some (aR 4 V 4 (lfB b)) ∧ τ (b + 2) = some (aR 5 V 4 (ofB b)) ∧ τ (b + 3) = some (aI V 100 ix) ∧ τ (b + 4) = some (aI V 8 tp) ∧ τ (b + 5) = some (ob 2 [.ref (b + 6), .ref (b + 7), .int tot]) ∧ τ (b + 6) = some (aJ V 360 rw) ∧ τ (b + 7) = some (aJ V 6 ac) ∧ τ (b + 8) = some (ob 0 [.long p0, .long p1]) ∧ τ (b + 9) = some (ob 0 [.long h0, .long h1]) ∧ τ (b + 10) = some (ob 0 [.long t0, .long t1])
def BZ (V : VX) (τ : Mem) (b : Nat) : Prop := BK V τ b 0 0 0 0 0 0 (fun _ => 1000) (fun _ => 0) (fun _ => 0) (fun _ => 0) 0 0 0 0 0 0 ∧ LZ V τ (b + 11) ∧ LZ V τ (b + 23) ∧ LZ V τ (b + 35) ∧ LZ V τ (b + 47) ∧ τ (b + 59) = some (ob 4 [.int 0, .int 0, .int 0, .int 0]) ∧ τ (b + 60) = some (ob 4 [.int 0, .int 0, .int 0, .int 0]) ∧ τ (b + 61) = some (ob 4 [.int 0, .int 0, .int 0, .int 0]) ∧ τ (b + 62) = some (ob 4 [.int 0, .int 0, .int 0, .int 0])
theorem LZ.keep {V : VX} {σ τ : Mem} {q : Nat} (h : LZ V σ q) (hk : ∀ x, q ≤ x → x ≤ q + 11 → τ x = σ x) : LZ V τ q := by
  obtain ⟨a0, a1, a2, a3, a4, a5, a6, a7, a8, a9, a10, a11⟩ := h
  exact ⟨(hk _ (by omega) (by omega)).trans a0, (hk _ (by omega) (by omega)).trans a1, (hk _ (by omega) (by omega)).trans a2, (hk _ (by omega) (by omega)).trans a3, (hk _ (by omega) (by omega)).trans a4, (hk _ (by omega) (by omega)).trans a5, (hk _ (by omega) (by omega)).trans a6, (hk _ (by omega) (by omega)).trans a7, (hk _ (by omega) (by omega)).trans a8, (hk _ (by omega) (by omega)).trans a9, (hk _ (by omega) (by omega)).trans a10, (hk _ (by omega) (by omega)).trans a11⟩
theorem BK.keep {V : VX} {σ τ : Mem} {b : Nat} {lc oc tc pe sd tot : Int32} {ix tp : Nat → Int32} {rw ac : Nat → Int64} {p0 p1 h0 h1 t0 t1 : Int64} (h : BK V σ b lc oc tc pe sd tot ix tp rw ac p0 p1 h0 h1 t0 t1) (hk : ∀ x, b ≤ x → x ≤ b + 10 → τ x = σ x) : BK V τ b lc oc tc pe sd tot ix tp rw ac p0 p1 h0 h1 t0 t1 := by
  obtain ⟨a0, a1, a2, a3, a4, a5, a6, a7, a8, a9, a10⟩ := h
  exact ⟨(hk _ (by omega) (by omega)).trans a0, (hk _ (by omega) (by omega)).trans a1, (hk _ (by omega) (by omega)).trans a2, (hk _ (by omega) (by omega)).trans a3, (hk _ (by omega) (by omega)).trans a4, (hk _ (by omega) (by omega)).trans a5, (hk _ (by omega) (by omega)).trans a6, (hk _ (by omega) (by omega)).trans a7, (hk _ (by omega) (by omega)).trans a8, (hk _ (by omega) (by omega)).trans a9, (hk _ (by omega) (by omega)).trans a10⟩
theorem BZ.keep {V : VX} {σ τ : Mem} {b : Nat} (h : BZ V σ b) (hk : ∀ x, b ≤ x → x ≤ b + 62 → τ x = σ x) : BZ V τ b := by
  obtain ⟨a0, a1, a2, a3, a4, a5, a6, a7, a8⟩ := h
  exact ⟨a0.keep (fun x g1 g2 => hk x (by omega) (by omega)), a1.keep (fun x g1 g2 => hk x (by omega) (by omega)), a2.keep (fun x g1 g2 => hk x (by omega) (by omega)), a3.keep (fun x g1 g2 => hk x (by omega) (by omega)), a4.keep (fun x g1 g2 => hk x (by omega) (by omega)), (hk _ (by omega) (by omega)).trans a5, (hk _ (by omega) (by omega)).trans a6, (hk _ (by omega) (by omega)).trans a7, (hk _ (by omega) (by omega)).trans a8⟩
theorem e_X2_init_0 : DC cX2_init 0 1 1 (.aload_n 0) := ⟨by decide +kernel, rfl⟩
theorem e_X2_init_1 : DC cX2_init 1 3 4 (.invokespecial 3) := ⟨by decide +kernel, rfl⟩
theorem ml_X2_3 : Cond.methodLink RX2 3 objectInit ∈ tb := tb_in 42 (by decide +kernel) (by decide +kernel)
theorem e_X2_init_4 : DC cX2_init 4 1 5 (.aload_n 0) := ⟨by decide +kernel, rfl⟩
theorem e_X2_init_5 : DC cX2_init 5 1 6 (.iconst 4) := ⟨by decide +kernel, rfl⟩
theorem e_X2_init_6 : DC cX2_init 6 3 9 (.anewarray 9) := ⟨by decide +kernel, rfl⟩
theorem cl_X2_9 : Cond.classLink RX2 9 RX5 ∈ tb := tb_in 43 (by decide +kernel) (by decide +kernel)
theorem e_X2_init_9 : DC cX2_init 9 3 12 (.putfield 11) := ⟨by decide +kernel, rfl⟩
theorem uw_1 : ∀ w ∈ u_ws RX2 TX2 13, w ∈ tb := tb_all [251, 253, 255, 257, 259, 261, 263, 265, 267, 269, 271, 273, 275] (by decide +kernel) (by decide +kernel)
theorem fp_X2_11 : FP RX2 11 1 0 true (.array (.object "LeaseLedger$Lease")) := ⟨RX2, TX2, 13, tyX2, rfl, by decide, uw_1, tb_in 224 (by decide +kernel) (by decide +kernel), rfl, rfl, by decide +kernel, tyX2_ok, nmX2⟩
theorem e_X2_init_12 : DC cX2_init 12 1 13 (.aload_n 0) := ⟨by decide +kernel, rfl⟩
theorem e_X2_init_13 : DC cX2_init 13 1 14 (.iconst 4) := ⟨by decide +kernel, rfl⟩
theorem e_X2_init_14 : DC cX2_init 14 3 17 (.anewarray 17) := ⟨by decide +kernel, rfl⟩
theorem cl_X2_17 : Cond.classLink RX2 17 RX6 ∈ tb := tb_in 45 (by decide +kernel) (by decide +kernel)
theorem e_X2_init_17 : DC cX2_init 17 3 20 (.putfield 19) := ⟨by decide +kernel, rfl⟩
theorem fp_X2_19 : FP RX2 19 1 1 true (.array (.object "LeaseLedger$Option")) := ⟨RX2, TX2, 13, tyX2, rfl, by decide, uw_1, tb_in 227 (by decide +kernel) (by decide +kernel), rfl, rfl, by decide +kernel, tyX2_ok, nmX2⟩
theorem e_X2_init_20 : DC cX2_init 20 1 21 (.aload_n 0) := ⟨by decide +kernel, rfl⟩
theorem e_X2_init_21 : DC cX2_init 21 2 23 (.bipush 100) := ⟨by decide +kernel, rfl⟩
theorem e_X2_init_23 : DC cX2_init 23 2 25 (.newarray .int) := ⟨by decide +kernel, rfl⟩
theorem arr_int : Cond.arrayClass .int ∈ tb := tb_in 66 (by decide +kernel) (by decide +kernel)
theorem e_X2_init_25 : DC cX2_init 25 3 28 (.putfield 23) := ⟨by decide +kernel, rfl⟩
theorem fp_X2_23 : FP RX2 23 1 2 true (.array .int) := ⟨RX2, TX2, 13, tyX2, rfl, by decide, uw_1, tb_in 229 (by decide +kernel) (by decide +kernel), rfl, rfl, by decide +kernel, tyX2_ok, nmX2⟩
theorem e_X2_init_28 : DC cX2_init 28 1 29 (.aload_n 0) := ⟨by decide +kernel, rfl⟩
theorem e_X2_init_29 : DC cX2_init 29 2 31 (.bipush 8) := ⟨by decide +kernel, rfl⟩
theorem e_X2_init_31 : DC cX2_init 31 2 33 (.newarray .int) := ⟨by decide +kernel, rfl⟩
theorem e_X2_init_33 : DC cX2_init 33 3 36 (.putfield 27) := ⟨by decide +kernel, rfl⟩
theorem fp_X2_27 : FP RX2 27 1 3 true (.array .int) := ⟨RX2, TX2, 13, tyX2, rfl, by decide, uw_1, tb_in 231 (by decide +kernel) (by decide +kernel), rfl, rfl, by decide +kernel, tyX2_ok, nmX2⟩
theorem e_X2_init_36 : DC cX2_init 36 1 37 (.aload_n 0) := ⟨by decide +kernel, rfl⟩
theorem e_X2_init_37 : DC cX2_init 37 3 40 (.new 30) := ⟨by decide +kernel, rfl⟩
theorem fn_X2_30 : FN RX2 30 2 3 [.null, .null, .int 0] := ⟨RX3, TX3, tyX3, rfl, uw_2, tb_in 47 (by decide +kernel) (by decide +kernel), tb_in 48 (by decide +kernel) (by decide +kernel), tb_in 3 (by decide +kernel) (by decide +kernel), tyX3_ok, by decide +kernel⟩
theorem e_X2_init_40 : DC cX2_init 40 1 41 (.dup) := ⟨by decide +kernel, rfl⟩
theorem e_X2_init_41 : DC cX2_init 41 3 44 (.invokespecial 32) := ⟨by decide +kernel, rfl⟩
theorem cb_X3_init : CB yX3_init cX3_init 1 none 0 := ⟨tb_in 51 (by decide +kernel) (by decide +kernel), tb_in 3 (by decide +kernel) (by decide +kernel), by decide +kernel⟩
theorem im_X3_init : Cond.instanceMethod yX3_init ∈ tb := tb_in 50 (by decide +kernel) (by decide +kernel)
theorem e_X2_init_44 : DC cX2_init 44 3 47 (.putfield 33) := ⟨by decide +kernel, rfl⟩
theorem fp_X2_33 : FP RX2 33 1 4 true (.object "LeaseLedger$Journal") := ⟨RX2, TX2, 13, tyX2, rfl, by decide, uw_1, tb_in 232 (by decide +kernel) (by decide +kernel), rfl, rfl, by decide +kernel, tyX2_ok, nmX2⟩
theorem e_X2_init_47 : DC cX2_init 47 1 48 (.aload_n 0) := ⟨by decide +kernel, rfl⟩
theorem e_X2_init_48 : DC cX2_init 48 3 51 (.new 37) := ⟨by decide +kernel, rfl⟩
theorem fn_X2_37 : FN RX2 37 0 2 [.long 0, .long 0] := ⟨RX1, TX1, tyX1, rfl, uw_0, tb_in 68 (by decide +kernel) (by decide +kernel), tb_in 69 (by decide +kernel) (by decide +kernel), tb_in 4 (by decide +kernel) (by decide +kernel), tyX1_ok, by decide +kernel⟩
theorem e_X2_init_51 : DC cX2_init 51 1 52 (.dup) := ⟨by decide +kernel, rfl⟩
theorem e_X2_init_52 : DC cX2_init 52 3 55 (.invokespecial 39) := ⟨by decide +kernel, rfl⟩
theorem e_X2_init_55 : DC cX2_init 55 3 58 (.putfield 40) := ⟨by decide +kernel, rfl⟩
theorem fp_X2_40 : FP RX2 40 1 5 true (.object "LeaseLedger$Amount") := ⟨RX2, TX2, 13, tyX2, rfl, by decide, uw_1, tb_in 234 (by decide +kernel) (by decide +kernel), rfl, rfl, by decide +kernel, tyX2_ok, nmX2⟩
theorem e_X2_init_58 : DC cX2_init 58 1 59 (.aload_n 0) := ⟨by decide +kernel, rfl⟩
theorem e_X2_init_59 : DC cX2_init 59 3 62 (.new 37) := ⟨by decide +kernel, rfl⟩
theorem e_X2_init_62 : DC cX2_init 62 1 63 (.dup) := ⟨by decide +kernel, rfl⟩
theorem e_X2_init_63 : DC cX2_init 63 3 66 (.invokespecial 39) := ⟨by decide +kernel, rfl⟩
theorem e_X2_init_66 : DC cX2_init 66 3 69 (.putfield 44) := ⟨by decide +kernel, rfl⟩
theorem fp_X2_44 : FP RX2 44 1 6 true (.object "LeaseLedger$Amount") := ⟨RX2, TX2, 13, tyX2, rfl, by decide, uw_1, tb_in 236 (by decide +kernel) (by decide +kernel), rfl, rfl, by decide +kernel, tyX2_ok, nmX2⟩
theorem e_X2_init_69 : DC cX2_init 69 1 70 (.aload_n 0) := ⟨by decide +kernel, rfl⟩
theorem e_X2_init_70 : DC cX2_init 70 3 73 (.new 37) := ⟨by decide +kernel, rfl⟩
theorem e_X2_init_73 : DC cX2_init 73 1 74 (.dup) := ⟨by decide +kernel, rfl⟩
theorem e_X2_init_74 : DC cX2_init 74 3 77 (.invokespecial 39) := ⟨by decide +kernel, rfl⟩
theorem e_X2_init_77 : DC cX2_init 77 3 80 (.putfield 47) := ⟨by decide +kernel, rfl⟩
theorem fp_X2_47 : FP RX2 47 1 7 true (.object "LeaseLedger$Amount") := ⟨RX2, TX2, 13, tyX2, rfl, by decide, uw_1, tb_in 237 (by decide +kernel) (by decide +kernel), rfl, rfl, by decide +kernel, tyX2_ok, nmX2⟩
theorem e_X2_init_80 : DC cX2_init 80 1 81 (.iconst 0) := ⟨by decide +kernel, rfl⟩
theorem e_X2_init_81 : DC cX2_init 81 1 82 (.istore_n 1) := ⟨by decide +kernel, rfl⟩
theorem e_X2_init_82 : DC cX2_init 82 1 83 (.iload_n 1) := ⟨by decide +kernel, rfl⟩
theorem e_X2_init_83 : DC cX2_init 83 1 84 (.iconst 4) := ⟨by decide +kernel, rfl⟩
theorem e_X2_init_84 : DJ cX2_init 84 106 87 (.if_icmp .ge) := DJ.mk 22 (by decide +kernel) (by decide) rfl
theorem e_X2_init_87 : DC cX2_init 87 1 88 (.aload_n 0) := ⟨by decide +kernel, rfl⟩
theorem e_X2_init_88 : DC cX2_init 88 3 91 (.getfield 11) := ⟨by decide +kernel, rfl⟩
theorem fl_X2_11 : FL RX2 11 1 0 := ⟨RX2, TX2, 13, rfl, by decide, uw_1, tb_in 224 (by decide +kernel) (by decide +kernel), rfl⟩
theorem e_X2_init_91 : DC cX2_init 91 1 92 (.iload_n 1) := ⟨by decide +kernel, rfl⟩
theorem e_X2_init_92 : DC cX2_init 92 3 95 (.new 9) := ⟨by decide +kernel, rfl⟩
theorem fn_X2_9 : FN RX2 9 3 18 [.int 0, .int 0, .int 0, .int 0, .int 0, .int 0, .int 0, .int 0, .int 0, .int 0, .int 0, .int 0, .int 0, .null, .null, .null, .null, .null] := ⟨RX5, TX5, tyX5, rfl, uw_3, tb_in 43 (by decide +kernel) (by decide +kernel), tb_in 83 (by decide +kernel) (by decide +kernel), tb_in 5 (by decide +kernel) (by decide +kernel), tyX5_ok, by decide +kernel⟩
theorem e_X2_init_95 : DC cX2_init 95 1 96 (.dup) := ⟨by decide +kernel, rfl⟩
theorem e_X2_init_96 : DC cX2_init 96 3 99 (.invokespecial 50) := ⟨by decide +kernel, rfl⟩
theorem cb_X5_init : CB yX5_init cX5_init 1 none 0 := ⟨tb_in 86 (by decide +kernel) (by decide +kernel), tb_in 5 (by decide +kernel) (by decide +kernel), by decide +kernel⟩
theorem im_X5_init : Cond.instanceMethod yX5_init ∈ tb := tb_in 85 (by decide +kernel) (by decide +kernel)
theorem e_X2_init_99 : DC cX2_init 99 1 100 (.aastore) := ⟨by decide +kernel, rfl⟩
theorem e_X2_init_100 : DC cX2_init 100 3 103 (.iinc 1 1) := ⟨by decide +kernel, rfl⟩
theorem e_X2_init_103 : DJ cX2_init 103 82 106 .goto := DJ.mk (-21) (by decide +kernel) (by decide) rfl
theorem e_X2_init_106 : DC cX2_init 106 1 107 (.iconst 0) := ⟨by decide +kernel, rfl⟩
theorem e_X2_init_107 : DC cX2_init 107 1 108 (.istore_n 1) := ⟨by decide +kernel, rfl⟩
theorem e_X2_init_108 : DC cX2_init 108 1 109 (.iload_n 1) := ⟨by decide +kernel, rfl⟩
theorem e_X2_init_109 : DC cX2_init 109 1 110 (.iconst 4) := ⟨by decide +kernel, rfl⟩
theorem e_X2_init_110 : DJ cX2_init 110 132 113 (.if_icmp .ge) := DJ.mk 22 (by decide +kernel) (by decide) rfl
theorem e_X2_init_113 : DC cX2_init 113 1 114 (.aload_n 0) := ⟨by decide +kernel, rfl⟩
theorem e_X2_init_114 : DC cX2_init 114 3 117 (.getfield 19) := ⟨by decide +kernel, rfl⟩
theorem fl_X2_19 : FL RX2 19 1 1 := ⟨RX2, TX2, 13, rfl, by decide, uw_1, tb_in 227 (by decide +kernel) (by decide +kernel), rfl⟩
theorem e_X2_init_117 : DC cX2_init 117 1 118 (.iload_n 1) := ⟨by decide +kernel, rfl⟩
theorem e_X2_init_118 : DC cX2_init 118 3 121 (.new 17) := ⟨by decide +kernel, rfl⟩
theorem uw_4 : ∀ w ∈ u_ws RX6 TX6 4, w ∈ tb := tb_all [212, 214, 216, 218] (by decide +kernel) (by decide +kernel)
theorem fn_X2_17 : FN RX2 17 4 4 [.int 0, .int 0, .int 0, .int 0] := ⟨RX6, TX6, tyX6, rfl, uw_4, tb_in 45 (by decide +kernel) (by decide +kernel), tb_in 197 (by decide +kernel) (by decide +kernel), tb_in 7 (by decide +kernel) (by decide +kernel), tyX6_ok, by decide +kernel⟩
theorem e_X2_init_121 : DC cX2_init 121 1 122 (.dup) := ⟨by decide +kernel, rfl⟩
theorem e_X2_init_122 : DC cX2_init 122 3 125 (.invokespecial 51) := ⟨by decide +kernel, rfl⟩
theorem cb_X6_init : CB yX6_init cX6_init 1 none 0 := ⟨tb_in 200 (by decide +kernel) (by decide +kernel), tb_in 7 (by decide +kernel) (by decide +kernel), by decide +kernel⟩
theorem im_X6_init : Cond.instanceMethod yX6_init ∈ tb := tb_in 199 (by decide +kernel) (by decide +kernel)
theorem e_X2_init_125 : DC cX2_init 125 1 126 (.aastore) := ⟨by decide +kernel, rfl⟩
theorem e_X2_init_126 : DC cX2_init 126 3 129 (.iinc 1 1) := ⟨by decide +kernel, rfl⟩
theorem e_X2_init_129 : DJ cX2_init 129 108 132 .goto := DJ.mk (-21) (by decide +kernel) (by decide) rfl
theorem e_X2_init_132 : DC cX2_init 132 1 133 (.aload_n 0) := ⟨by decide +kernel, rfl⟩
theorem e_X2_init_133 : DC cX2_init 133 3 136 (.getfield 23) := ⟨by decide +kernel, rfl⟩
theorem fl_X2_23 : FL RX2 23 1 2 := ⟨RX2, TX2, 13, rfl, by decide, uw_1, tb_in 229 (by decide +kernel) (by decide +kernel), rfl⟩
theorem e_X2_init_136 : DC cX2_init 136 3 139 (.sipush 1000) := ⟨by decide +kernel, rfl⟩
theorem e_X2_init_139 : DC cX2_init 139 3 142 (.invokestatic 52) := ⟨by decide +kernel, rfl⟩
theorem cb_J7_fill_53178 : CB yJ7_fill_53178 cJ7_fill_53178 4 none 2 := ⟨tb_in 223 (by decide +kernel) (by decide +kernel), tb_in 8 (by decide +kernel) (by decide +kernel), by decide +kernel⟩
theorem ml_X2_52 : Cond.methodLink RX2 52 yJ7_fill_53178 ∈ tb := tb_in 221 (by decide +kernel) (by decide +kernel)
theorem sm_J7_fill_53178 : Cond.static yJ7_fill_53178 ∈ tb := tb_in 222 (by decide +kernel) (by decide +kernel)
theorem e_X2_init_142 : DC cX2_init 142 1 143 (.return_) := ⟨by decide +kernel, rfl⟩
theorem e_X7_init_0 : DC cX7_init 0 1 1 (.aload_n 0) := ⟨by decide +kernel, rfl⟩
theorem e_X7_init_1 : DC cX7_init 1 3 4 (.invokespecial 3) := ⟨by decide +kernel, rfl⟩
theorem ml_X7_3 : Cond.methodLink RX7 3 objectInit ∈ tb := tb_in 283 (by decide +kernel) (by decide +kernel)
theorem e_X7_init_4 : DC cX7_init 4 1 5 (.aload_n 0) := ⟨by decide +kernel, rfl⟩
theorem e_X7_init_5 : DC cX7_init 5 1 6 (.iconst 4) := ⟨by decide +kernel, rfl⟩
theorem e_X7_init_6 : DC cX7_init 6 2 8 (.newarray .int) := ⟨by decide +kernel, rfl⟩
theorem e_X7_init_8 : DC cX7_init 8 3 11 (.putfield 9) := ⟨by decide +kernel, rfl⟩
theorem uw_5 : ∀ w ∈ u_ws RX7 TX7 13, w ∈ tb := tb_all [300, 302, 304, 306, 308, 310, 312, 314, 316, 318, 320, 322, 324] (by decide +kernel) (by decide +kernel)
theorem fp_X7_9 : FP RX7 9 5 3 true (.array .int) := ⟨RX7, TX7, 13, tyX7, rfl, by decide, uw_5, tb_in 287 (by decide +kernel) (by decide +kernel), rfl, rfl, by decide +kernel, tyX7_ok, nmX7⟩
theorem e_X7_init_11 : DC cX7_init 11 1 12 (.aload_n 0) := ⟨by decide +kernel, rfl⟩
theorem e_X7_init_12 : DC cX7_init 12 1 13 (.iconst (-1)) := ⟨by decide +kernel, rfl⟩
theorem e_X7_init_13 : DC cX7_init 13 3 16 (.putfield 15) := ⟨by decide +kernel, rfl⟩
theorem fp_X7_15 : FP RX7 15 5 12 false .int := ⟨RX7, TX7, 13, tyX7, rfl, by decide, uw_5, tb_in 298 (by decide +kernel) (by decide +kernel), rfl, rfl, by decide +kernel, tyX7_ok, nmX7⟩
theorem e_X7_init_16 : DC cX7_init 16 1 17 (.aload_n 0) := ⟨by decide +kernel, rfl⟩
theorem e_X7_init_17 : DC cX7_init 17 1 18 (.aload_n 1) := ⟨by decide +kernel, rfl⟩
theorem e_X7_init_18 : DC cX7_init 18 3 21 (.putfield 19) := ⟨by decide +kernel, rfl⟩
theorem fp_X7_19 : FP RX7 19 5 0 true (.array .byte) := ⟨RX7, TX7, 13, tyX7, rfl, by decide, uw_5, tb_in 284 (by decide +kernel) (by decide +kernel), rfl, rfl, by decide +kernel, tyX7_ok, nmX7⟩
theorem e_X7_init_21 : DC cX7_init 21 1 22 (.aload_n 0) := ⟨by decide +kernel, rfl⟩
theorem e_X7_init_22 : DC cX7_init 22 1 23 (.aload_n 2) := ⟨by decide +kernel, rfl⟩
theorem e_X7_init_23 : DC cX7_init 23 3 26 (.putfield 23) := ⟨by decide +kernel, rfl⟩
theorem fp_X7_23 : FP RX7 23 5 2 false (.object "LeaseLedger$Book") := ⟨RX7, TX7, 13, tyX7, rfl, by decide, uw_5, tb_in 286 (by decide +kernel) (by decide +kernel), rfl, rfl, by decide +kernel, tyX7_ok, nmX7⟩
theorem e_X7_init_26 : DC cX7_init 26 1 27 (.return_) := ⟨by decide +kernel, rfl⟩
set_option maxRecDepth 20000 in
theorem k_Book_init (l : Launch) (V : VX) (σ : Mem) (b : Nat) (h0 : σ b = some (ob 1 [.null, .null, .null, .null, .null, .null, .null, .null, .int 0, .int 0, .int 0, .int 0, .int 0])) : Ct l V yX2_init cX2_init 2 none 4 62 1807 (b + 1) σ [.ref b] (fun r τ => r = none ∧ BZ V τ b ∧ ∀ q : Nat, q < b → τ q = σ q) := by
  refine Ct.of (by decide) (Nat.le_of_ble_eq_true rfl) [(0, .ref b)] rfl (fun X hX F hQ => ?_)
  refine m_aload_n F rfl e_X2_init_0 ?_
  refine m_objInit F e_X2_init_1 ml_X2_3 im_obj co_obj (Nat.le_of_ble_eq_true rfl) (Nat.le_of_ble_eq_true rfl) ?_
  refine m_aload_n F rfl e_X2_init_4 ?_
  refine m_iconst F (v := 4) (by decide) e_X2_init_5 ?_
  refine m_anew F (ti := 4) (len := 4) e_X2_init_6 cl_X2_9 F.ku.2.2.1 rfl (by decide) (by decide) (by decide) (k' := 1) (z' := 4) (N' := b + 2) rfl rfl rfl (Nat.le_of_ble_eq_true rfl) (Nat.le_of_ble_eq_true rfl) ?_
  refine m_putF F e_X2_init_9 fp_X2_11 rfl rfl (ru_ne (by omega) h0) rfl rfl (Nat.le_of_ble_eq_true rfl) (fs' := [.ref (b + 1), .null, .null, .null, .null, .null, .null, .null, .int 0, .int 0, .int 0, .int 0, .int 0]) rfl rfl ?_
  refine m_aload_n F rfl e_X2_init_12 ?_
  refine m_iconst F (v := 4) (by decide) e_X2_init_13 ?_
  refine m_anew F (ti := 5) (len := 4) e_X2_init_14 cl_X2_17 F.ku.2.2.2.1 rfl (by decide) (by decide) (by decide) (k' := 2) (z' := 8) (N' := b + 3) rfl rfl rfl (Nat.le_of_ble_eq_true rfl) (Nat.le_of_ble_eq_true rfl) ?_
  refine m_putF F e_X2_init_17 fp_X2_19 rfl rfl (ru_ne (by omega) ru_eq) rfl rfl (Nat.le_of_ble_eq_true rfl) (fs' := [.ref (b + 1), .ref (b + 2), .null, .null, .null, .null, .null, .null, .int 0, .int 0, .int 0, .int 0, .int 0]) rfl rfl ?_
  refine m_aload_n F rfl e_X2_init_20 ?_
  refine m_bipush F (v := 100) (by decide) e_X2_init_21 ?_
  refine m_newI F (len := 100) e_X2_init_23 arr_int (by decide) (by decide) (by decide) (k' := 3) (z' := 108) (N' := b + 4) rfl rfl rfl (Nat.le_of_ble_eq_true rfl) (Nat.le_of_ble_eq_true rfl) ?_
  refine m_putF F e_X2_init_25 fp_X2_23 rfl rfl (ru_ne (by omega) ru_eq) rfl rfl (Nat.le_of_ble_eq_true rfl) (fs' := [.ref (b + 1), .ref (b + 2), .ref (b + 3), .null, .null, .null, .null, .null, .int 0, .int 0, .int 0, .int 0, .int 0]) rfl rfl ?_
  refine m_aload_n F rfl e_X2_init_28 ?_
  refine m_bipush F (v := 8) (by decide) e_X2_init_29 ?_
  refine m_newI F (len := 8) e_X2_init_31 arr_int (by decide) (by decide) (by decide) (k' := 4) (z' := 116) (N' := b + 5) rfl rfl rfl (Nat.le_of_ble_eq_true rfl) (Nat.le_of_ble_eq_true rfl) ?_
  refine m_putF F e_X2_init_33 fp_X2_27 rfl rfl (ru_ne (by omega) ru_eq) rfl rfl (Nat.le_of_ble_eq_true rfl) (fs' := [.ref (b + 1), .ref (b + 2), .ref (b + 3), .ref (b + 4), .null, .null, .null, .null, .int 0, .int 0, .int 0, .int 0, .int 0]) rfl rfl ?_
  refine m_aload_n F rfl e_X2_init_36 ?_
  refine m_new F e_X2_init_37 fn_X2_30 (k' := 5) (z' := 119) (N' := b + 6) rfl rfl rfl (Nat.le_of_ble_eq_true rfl) (Nat.le_of_ble_eq_true rfl) ?_
  refine m_dup F rfl e_X2_init_40 ?_
  refine m_callIN F e_X2_init_41 (k_Journal_init (x_l X) V (b + 6) _ (b + 5) (by omega) ru_eq) cb_X3_init (by simp [nestW, yX2_init]) im_X3_init rfl rfl (rest := [.ref (b + 5), .ref b]) rfl (Nat.le_of_ble_eq_true rfl) ⟨Nat.le_of_ble_eq_true rfl, Nat.le_of_ble_eq_true rfl⟩ ⟨Nat.le_of_ble_eq_true rfl, Nat.le_of_ble_eq_true rfl⟩ (k' := 7) (z' := 485) (N' := b + 8) rfl rfl rfl (fun r τ25 hp => ?_)
  obtain ⟨rfl, h26, h27, h28, hf29⟩ := hp
  have g30 : τ25 b = some (ob 1 [.ref (b + 1), .ref (b + 2), .ref (b + 3), .ref (b + 4), .null, .null, .null, .null, .int 0, .int 0, .int 0, .int 0, .int 0]) := (hf29 b (by omega) (by omega)).trans (ru_ne (by omega) ru_eq)
  have g31 : τ25 (b + 1) = some (aR 4 V 4 (fun _ => none)) := (hf29 (b + 1) (by omega) (by omega)).trans (ru_ne (by omega) (ru_ne (by omega) (ru_ne (by omega) (ru_ne (by omega) (ru_ne (by omega) (ru_ne (by omega) (ru_ne (by omega) (ru_ne (by omega) ru_eq))))))))
  have g32 : τ25 (b + 2) = some (aR 5 V 4 (fun _ => none)) := (hf29 (b + 2) (by omega) (by omega)).trans (ru_ne (by omega) (ru_ne (by omega) (ru_ne (by omega) (ru_ne (by omega) (ru_ne (by omega) (ru_ne (by omega) ru_eq))))))
  have g33 : τ25 (b + 3) = some (aI V 100 (fun _ => 0)) := (hf29 (b + 3) (by omega) (by omega)).trans (ru_ne (by omega) (ru_ne (by omega) (ru_ne (by omega) (ru_ne (by omega) ru_eq))))
  have g34 : τ25 (b + 4) = some (aI V 8 (fun _ => 0)) := (hf29 (b + 4) (by omega) (by omega)).trans (ru_ne (by omega) (ru_ne (by omega) ru_eq))
  have fr35 : ∀ q : Nat, q < b → τ25 q = σ q := fun q h1 => (hf29 q (by omega) (by omega)).trans (ru_ne (by omega) (ru_ne (by omega) (ru_ne (by omega) (ru_ne (by omega) (ru_ne (by omega) (ru_ne (by omega) (ru_ne (by omega) (ru_ne (by omega) (ru_ne (by omega) rfl)))))))))
  refine m_putF F e_X2_init_44 fp_X2_33 rfl rfl g30 rfl rfl (Nat.le_of_ble_eq_true rfl) (fs' := [.ref (b + 1), .ref (b + 2), .ref (b + 3), .ref (b + 4), .ref (b + 5), .null, .null, .null, .int 0, .int 0, .int 0, .int 0, .int 0]) rfl rfl ?_
  refine m_aload_n F rfl e_X2_init_47 ?_
  refine m_new F e_X2_init_48 fn_X2_37 (k' := 8) (z' := 487) (N' := b + 9) rfl rfl rfl (Nat.le_of_ble_eq_true rfl) (Nat.le_of_ble_eq_true rfl) ?_
  refine m_dup F rfl e_X2_init_51 ?_
  refine m_callIN F e_X2_init_52 (k_Amount_init (x_l X) V _ _ (b + 8)) cb_X1_init (by simp [nestW, yX2_init]) im_X1_init rfl rfl (rest := [.ref (b + 8), .ref b]) rfl (Nat.le_of_ble_eq_true rfl) ⟨Nat.le_of_ble_eq_true rfl, Nat.le_of_ble_eq_true rfl⟩ ⟨Nat.le_of_ble_eq_true rfl, Nat.le_of_ble_eq_true rfl⟩ (k' := 8) (z' := 487) (N' := b + 9) rfl rfl rfl (fun r τ hp => ?_)
  obtain ⟨rfl, rfl⟩ := hp
  refine m_putF F e_X2_init_55 fp_X2_40 rfl rfl (ru_ne (by omega) ru_eq) rfl rfl (Nat.le_of_ble_eq_true rfl) (fs' := [.ref (b + 1), .ref (b + 2), .ref (b + 3), .ref (b + 4), .ref (b + 5), .ref (b + 8), .null, .null, .int 0, .int 0, .int 0, .int 0, .int 0]) rfl rfl ?_
  refine m_aload_n F rfl e_X2_init_58 ?_
  refine m_new F e_X2_init_59 fn_X2_37 (k' := 9) (z' := 489) (N' := b + 10) rfl rfl rfl (Nat.le_of_ble_eq_true rfl) (Nat.le_of_ble_eq_true rfl) ?_
  refine m_dup F rfl e_X2_init_62 ?_
  refine m_callIN F e_X2_init_63 (k_Amount_init (x_l X) V _ _ (b + 9)) cb_X1_init (by simp [nestW, yX2_init]) im_X1_init rfl rfl (rest := [.ref (b + 9), .ref b]) rfl (Nat.le_of_ble_eq_true rfl) ⟨Nat.le_of_ble_eq_true rfl, Nat.le_of_ble_eq_true rfl⟩ ⟨Nat.le_of_ble_eq_true rfl, Nat.le_of_ble_eq_true rfl⟩ (k' := 9) (z' := 489) (N' := b + 10) rfl rfl rfl (fun r τ hp => ?_)
  obtain ⟨rfl, rfl⟩ := hp
  refine m_putF F e_X2_init_66 fp_X2_44 rfl rfl (ru_ne (by omega) ru_eq) rfl rfl (Nat.le_of_ble_eq_true rfl) (fs' := [.ref (b + 1), .ref (b + 2), .ref (b + 3), .ref (b + 4), .ref (b + 5), .ref (b + 8), .ref (b + 9), .null, .int 0, .int 0, .int 0, .int 0, .int 0]) rfl rfl ?_
  refine m_aload_n F rfl e_X2_init_69 ?_
  refine m_new F e_X2_init_70 fn_X2_37 (k' := 10) (z' := 491) (N' := b + 11) rfl rfl rfl (Nat.le_of_ble_eq_true rfl) (Nat.le_of_ble_eq_true rfl) ?_
  refine m_dup F rfl e_X2_init_73 ?_
  refine m_callIN F e_X2_init_74 (k_Amount_init (x_l X) V _ _ (b + 10)) cb_X1_init (by simp [nestW, yX2_init]) im_X1_init rfl rfl (rest := [.ref (b + 10), .ref b]) rfl (Nat.le_of_ble_eq_true rfl) ⟨Nat.le_of_ble_eq_true rfl, Nat.le_of_ble_eq_true rfl⟩ ⟨Nat.le_of_ble_eq_true rfl, Nat.le_of_ble_eq_true rfl⟩ (k' := 10) (z' := 491) (N' := b + 11) rfl rfl rfl (fun r τ hp => ?_)
  obtain ⟨rfl, rfl⟩ := hp
  refine m_putF F e_X2_init_77 fp_X2_47 rfl rfl (ru_ne (by omega) ru_eq) rfl rfl (Nat.le_of_ble_eq_true rfl) (fs' := [.ref (b + 1), .ref (b + 2), .ref (b + 3), .ref (b + 4), .ref (b + 5), .ref (b + 8), .ref (b + 9), .ref (b + 10), .int 0, .int 0, .int 0, .int 0, .int 0]) rfl rfl ?_
  refine m_iconst F (v := 0) (by decide) e_X2_init_80 ?_
  refine m_istore_n F (lv' := [(1, .int 0), (0, .ref b)]) e_X2_init_81 (by decide) rfl ?_
  refine m_iload_n F rfl e_X2_init_82 ?_
  refine m_iconst F (v := 4) (by decide) e_X2_init_83 ?_
  refine m_icmp_ge F e_X2_init_84 (fun q => absurd q (by decide)) (fun _ => ?_)
  refine m_aload_n F rfl e_X2_init_87 ?_
  refine m_get F e_X2_init_88 fl_X2_11 ru_eq rfl ?_
  refine m_iload_n F rfl e_X2_init_91 ?_
  refine m_new F e_X2_init_92 fn_X2_9 (k' := 11) (z' := 509) (N' := b + 12) rfl rfl rfl (Nat.le_of_ble_eq_true rfl) (Nat.le_of_ble_eq_true rfl) ?_
  refine m_dup F rfl e_X2_init_95 ?_
  refine m_callIN F e_X2_init_96 (k_Lease_init (x_l X) V (b + 12) _ (b + 11) (by omega) ru_eq) cb_X5_init (by simp [nestW, yX2_init]) im_X5_init rfl rfl (rest := [.ref (b + 11), .int 0, .ref (b + 1)]) rfl (Nat.le_of_ble_eq_true rfl) ⟨Nat.le_of_ble_eq_true rfl, Nat.le_of_ble_eq_true rfl⟩ ⟨Nat.le_of_ble_eq_true rfl, Nat.le_of_ble_eq_true rfl⟩ (k' := 22) (z' := 816) (N' := b + 23) rfl rfl rfl (fun r τ36 hp => ?_)
  obtain ⟨rfl, h37, h38, h39, h40, h41, h42, h43, h44, h45, h46, h47, h48, hf49⟩ := hp
  have g50 : τ36 b = some (ob 1 [.ref (b + 1), .ref (b + 2), .ref (b + 3), .ref (b + 4), .ref (b + 5), .ref (b + 8), .ref (b + 9), .ref (b + 10), .int 0, .int 0, .int 0, .int 0, .int 0]) := (hf49 b (by omega) (by omega)).trans (ru_ne (by omega) ru_eq)
  have g51 : τ36 (b + 1) = some (aR 4 V 4 (fun _ => none)) := (hf49 (b + 1) (by omega) (by omega)).trans (ru_ne (by omega) (ru_ne (by omega) (ru_ne (by omega) (ru_ne (by omega) (ru_ne (by omega) (ru_ne (by omega) (ru_ne (by omega) (ru_ne (by omega) g31))))))))
  have g52 : τ36 (b + 2) = some (aR 5 V 4 (fun _ => none)) := (hf49 (b + 2) (by omega) (by omega)).trans (ru_ne (by omega) (ru_ne (by omega) (ru_ne (by omega) (ru_ne (by omega) (ru_ne (by omega) (ru_ne (by omega) (ru_ne (by omega) (ru_ne (by omega) g32))))))))
  have g53 : τ36 (b + 3) = some (aI V 100 (fun _ => 0)) := (hf49 (b + 3) (by omega) (by omega)).trans (ru_ne (by omega) (ru_ne (by omega) (ru_ne (by omega) (ru_ne (by omega) (ru_ne (by omega) (ru_ne (by omega) (ru_ne (by omega) (ru_ne (by omega) g33))))))))
  have g54 : τ36 (b + 4) = some (aI V 8 (fun _ => 0)) := (hf49 (b + 4) (by omega) (by omega)).trans (ru_ne (by omega) (ru_ne (by omega) (ru_ne (by omega) (ru_ne (by omega) (ru_ne (by omega) (ru_ne (by omega) (ru_ne (by omega) (ru_ne (by omega) g34))))))))
  have g55 : τ36 (b + 5) = some (ob 2 [.ref (b + 6), .ref (b + 7), .int 0]) := (hf49 (b + 5) (by omega) (by omega)).trans (ru_ne (by omega) (ru_ne (by omega) (ru_ne (by omega) (ru_ne (by omega) (ru_ne (by omega) (ru_ne (by omega) (ru_ne (by omega) (ru_ne (by omega) h26))))))))
  have g56 : τ36 (b + 6) = some (aJ V 360 (fun _ => 0)) := (hf49 (b + 6) (by omega) (by omega)).trans (ru_ne (by omega) (ru_ne (by omega) (ru_ne (by omega) (ru_ne (by omega) (ru_ne (by omega) (ru_ne (by omega) (ru_ne (by omega) (ru_ne (by omega) h27))))))))
  have g57 : τ36 (b + 7) = some (aJ V 6 (fun _ => 0)) := (hf49 (b + 7) (by omega) (by omega)).trans (ru_ne (by omega) (ru_ne (by omega) (ru_ne (by omega) (ru_ne (by omega) (ru_ne (by omega) (ru_ne (by omega) (ru_ne (by omega) (ru_ne (by omega) h28))))))))
  have g58 : τ36 (b + 8) = some (ob 0 [.long 0, .long 0]) := (hf49 (b + 8) (by omega) (by omega)).trans (ru_ne (by omega) (ru_ne (by omega) (ru_ne (by omega) (ru_ne (by omega) (ru_ne (by omega) (ru_ne (by omega) ru_eq))))))
  have g59 : τ36 (b + 9) = some (ob 0 [.long 0, .long 0]) := (hf49 (b + 9) (by omega) (by omega)).trans (ru_ne (by omega) (ru_ne (by omega) (ru_ne (by omega) (ru_ne (by omega) ru_eq))))
  have g60 : τ36 (b + 10) = some (ob 0 [.long 0, .long 0]) := (hf49 (b + 10) (by omega) (by omega)).trans (ru_ne (by omega) (ru_ne (by omega) ru_eq))
  have fr61 : ∀ q : Nat, q < b → τ36 q = σ q := fun q h1 => (hf49 q (by omega) (by omega)).trans (ru_ne (by omega) (ru_ne (by omega) (ru_ne (by omega) (ru_ne (by omega) (ru_ne (by omega) (ru_ne (by omega) (ru_ne (by omega) (ru_ne (by omega) (fr35 q h1)))))))))
  refine m_aast F (j := 0) e_X2_init_99 g51 rfl h37 rfl (by decide) (by unfold vp_in; decide) rfl rfl ?_
  refine m_iinc F (v := 1) (lv' := [(1, .int 1), (0, .ref b)]) e_X2_init_100 rfl (by decide) (by decide) rfl ?_
  refine m_goto F e_X2_init_103 ?_
  refine m_iload_n F rfl e_X2_init_82 ?_
  refine m_iconst F (v := 4) (by decide) e_X2_init_83 ?_
  refine m_icmp_ge F e_X2_init_84 (fun q => absurd q (by decide)) (fun _ => ?_)
  refine m_aload_n F rfl e_X2_init_87 ?_
  refine m_get F e_X2_init_88 fl_X2_11 (ru_ne (by omega) g50) rfl ?_
  refine m_iload_n F rfl e_X2_init_91 ?_
  refine m_new F e_X2_init_92 fn_X2_9 (k' := 23) (z' := 834) (N' := b + 24) rfl rfl rfl (Nat.le_of_ble_eq_true rfl) (Nat.le_of_ble_eq_true rfl) ?_
  refine m_dup F rfl e_X2_init_95 ?_
  refine m_callIN F e_X2_init_96 (k_Lease_init (x_l X) V (b + 24) _ (b + 23) (by omega) ru_eq) cb_X5_init (by simp [nestW, yX2_init]) im_X5_init rfl rfl (rest := [.ref (b + 23), .int 1, .ref (b + 1)]) rfl (Nat.le_of_ble_eq_true rfl) ⟨Nat.le_of_ble_eq_true rfl, Nat.le_of_ble_eq_true rfl⟩ ⟨Nat.le_of_ble_eq_true rfl, Nat.le_of_ble_eq_true rfl⟩ (k' := 34) (z' := 1141) (N' := b + 35) rfl rfl rfl (fun r τ62 hp => ?_)
  obtain ⟨rfl, h63, h64, h65, h66, h67, h68, h69, h70, h71, h72, h73, h74, hf75⟩ := hp
  have g76 : τ62 b = some (ob 1 [.ref (b + 1), .ref (b + 2), .ref (b + 3), .ref (b + 4), .ref (b + 5), .ref (b + 8), .ref (b + 9), .ref (b + 10), .int 0, .int 0, .int 0, .int 0, .int 0]) := (hf75 b (by omega) (by omega)).trans (ru_ne (by omega) (ru_ne (by omega) g50))
  have g77 : τ62 (b + 1) = some (aR 4 V 4 (va_up (fun _ => none) 0 (some (b + 11)))) := (hf75 (b + 1) (by omega) (by omega)).trans (ru_ne (by omega) ru_eq)
  have g78 : τ62 (b + 2) = some (aR 5 V 4 (fun _ => none)) := (hf75 (b + 2) (by omega) (by omega)).trans (ru_ne (by omega) (ru_ne (by omega) g52))
  have g79 : τ62 (b + 3) = some (aI V 100 (fun _ => 0)) := (hf75 (b + 3) (by omega) (by omega)).trans (ru_ne (by omega) (ru_ne (by omega) g53))
  have g80 : τ62 (b + 4) = some (aI V 8 (fun _ => 0)) := (hf75 (b + 4) (by omega) (by omega)).trans (ru_ne (by omega) (ru_ne (by omega) g54))
  have g81 : τ62 (b + 5) = some (ob 2 [.ref (b + 6), .ref (b + 7), .int 0]) := (hf75 (b + 5) (by omega) (by omega)).trans (ru_ne (by omega) (ru_ne (by omega) g55))
  have g82 : τ62 (b + 6) = some (aJ V 360 (fun _ => 0)) := (hf75 (b + 6) (by omega) (by omega)).trans (ru_ne (by omega) (ru_ne (by omega) g56))
  have g83 : τ62 (b + 7) = some (aJ V 6 (fun _ => 0)) := (hf75 (b + 7) (by omega) (by omega)).trans (ru_ne (by omega) (ru_ne (by omega) g57))
  have g84 : τ62 (b + 8) = some (ob 0 [.long 0, .long 0]) := (hf75 (b + 8) (by omega) (by omega)).trans (ru_ne (by omega) (ru_ne (by omega) g58))
  have g85 : τ62 (b + 9) = some (ob 0 [.long 0, .long 0]) := (hf75 (b + 9) (by omega) (by omega)).trans (ru_ne (by omega) (ru_ne (by omega) g59))
  have g86 : τ62 (b + 10) = some (ob 0 [.long 0, .long 0]) := (hf75 (b + 10) (by omega) (by omega)).trans (ru_ne (by omega) (ru_ne (by omega) g60))
  have g87 : τ62 (b + 11) = some (ob 3 [.int 0, .int 0, .int 0, .int 0, .int 0, .int 0, .int 0, .int 0, .int 0, .int 0, .int 0, .int 0, .int 0, .ref (b + 12), .ref (b + 13), .ref (b + 14), .ref (b + 18), .ref (b + 22)]) := (hf75 (b + 11) (by omega) (by omega)).trans (ru_ne (by omega) (ru_ne (by omega) h37))
  have g88 : τ62 (b + 12) = some (ob 0 [.long 0, .long 0]) := (hf75 (b + 12) (by omega) (by omega)).trans (ru_ne (by omega) (ru_ne (by omega) h38))
  have g89 : τ62 (b + 13) = some (ob 0 [.long 0, .long 0]) := (hf75 (b + 13) (by omega) (by omega)).trans (ru_ne (by omega) (ru_ne (by omega) h39))
  have g90 : τ62 (b + 14) = some (ob 6 [.ref (b + 15), .ref (b + 16), .ref (b + 17)]) := (hf75 (b + 14) (by omega) (by omega)).trans (ru_ne (by omega) (ru_ne (by omega) h40))
  have g91 : τ62 (b + 15) = some (aJ V 72 (fun _ => 0)) := (hf75 (b + 15) (by omega) (by omega)).trans (ru_ne (by omega) (ru_ne (by omega) h41))
  have g92 : τ62 (b + 16) = some (aJ V 72 (fun _ => 0)) := (hf75 (b + 16) (by omega) (by omega)).trans (ru_ne (by omega) (ru_ne (by omega) h42))
  have g93 : τ62 (b + 17) = some (ob 0 [.long 0, .long 0]) := (hf75 (b + 17) (by omega) (by omega)).trans (ru_ne (by omega) (ru_ne (by omega) h43))
  have g94 : τ62 (b + 18) = some (ob 6 [.ref (b + 19), .ref (b + 20), .ref (b + 21)]) := (hf75 (b + 18) (by omega) (by omega)).trans (ru_ne (by omega) (ru_ne (by omega) h44))
  have g95 : τ62 (b + 19) = some (aJ V 72 (fun _ => 0)) := (hf75 (b + 19) (by omega) (by omega)).trans (ru_ne (by omega) (ru_ne (by omega) h45))
  have g96 : τ62 (b + 20) = some (aJ V 72 (fun _ => 0)) := (hf75 (b + 20) (by omega) (by omega)).trans (ru_ne (by omega) (ru_ne (by omega) h46))
  have g97 : τ62 (b + 21) = some (ob 0 [.long 0, .long 0]) := (hf75 (b + 21) (by omega) (by omega)).trans (ru_ne (by omega) (ru_ne (by omega) h47))
  have g98 : τ62 (b + 22) = some (aJ V 5 (fun _ => 0)) := (hf75 (b + 22) (by omega) (by omega)).trans (ru_ne (by omega) (ru_ne (by omega) h48))
  have fr99 : ∀ q : Nat, q < b → τ62 q = σ q := fun q h1 => (hf75 q (by omega) (by omega)).trans (ru_ne (by omega) (ru_ne (by omega) (fr61 q h1)))
  refine m_aast F (j := 1) e_X2_init_99 g77 rfl h63 rfl (by decide) (by unfold vp_in; decide) rfl rfl ?_
  refine m_iinc F (v := 2) (lv' := [(1, .int 2), (0, .ref b)]) e_X2_init_100 rfl (by decide) (by decide) rfl ?_
  refine m_goto F e_X2_init_103 ?_
  refine m_iload_n F rfl e_X2_init_82 ?_
  refine m_iconst F (v := 4) (by decide) e_X2_init_83 ?_
  refine m_icmp_ge F e_X2_init_84 (fun q => absurd q (by decide)) (fun _ => ?_)
  refine m_aload_n F rfl e_X2_init_87 ?_
  refine m_get F e_X2_init_88 fl_X2_11 (ru_ne (by omega) g76) rfl ?_
  refine m_iload_n F rfl e_X2_init_91 ?_
  refine m_new F e_X2_init_92 fn_X2_9 (k' := 35) (z' := 1159) (N' := b + 36) rfl rfl rfl (Nat.le_of_ble_eq_true rfl) (Nat.le_of_ble_eq_true rfl) ?_
  refine m_dup F rfl e_X2_init_95 ?_
  refine m_callIN F e_X2_init_96 (k_Lease_init (x_l X) V (b + 36) _ (b + 35) (by omega) ru_eq) cb_X5_init (by simp [nestW, yX2_init]) im_X5_init rfl rfl (rest := [.ref (b + 35), .int 2, .ref (b + 1)]) rfl (Nat.le_of_ble_eq_true rfl) ⟨Nat.le_of_ble_eq_true rfl, Nat.le_of_ble_eq_true rfl⟩ ⟨Nat.le_of_ble_eq_true rfl, Nat.le_of_ble_eq_true rfl⟩ (k' := 46) (z' := 1466) (N' := b + 47) rfl rfl rfl (fun r τ100 hp => ?_)
  obtain ⟨rfl, h101, h102, h103, h104, h105, h106, h107, h108, h109, h110, h111, h112, hf113⟩ := hp
  have g114 : τ100 b = some (ob 1 [.ref (b + 1), .ref (b + 2), .ref (b + 3), .ref (b + 4), .ref (b + 5), .ref (b + 8), .ref (b + 9), .ref (b + 10), .int 0, .int 0, .int 0, .int 0, .int 0]) := (hf113 b (by omega) (by omega)).trans (ru_ne (by omega) (ru_ne (by omega) g76))
  have g115 : τ100 (b + 1) = some (aR 4 V 4 (va_up (va_up (fun _ => none) 0 (some (b + 11))) 1 (some (b + 23)))) := (hf113 (b + 1) (by omega) (by omega)).trans (ru_ne (by omega) ru_eq)
  have g116 : τ100 (b + 2) = some (aR 5 V 4 (fun _ => none)) := (hf113 (b + 2) (by omega) (by omega)).trans (ru_ne (by omega) (ru_ne (by omega) g78))
  have g117 : τ100 (b + 3) = some (aI V 100 (fun _ => 0)) := (hf113 (b + 3) (by omega) (by omega)).trans (ru_ne (by omega) (ru_ne (by omega) g79))
  have g118 : τ100 (b + 4) = some (aI V 8 (fun _ => 0)) := (hf113 (b + 4) (by omega) (by omega)).trans (ru_ne (by omega) (ru_ne (by omega) g80))
  have g119 : τ100 (b + 5) = some (ob 2 [.ref (b + 6), .ref (b + 7), .int 0]) := (hf113 (b + 5) (by omega) (by omega)).trans (ru_ne (by omega) (ru_ne (by omega) g81))
  have g120 : τ100 (b + 6) = some (aJ V 360 (fun _ => 0)) := (hf113 (b + 6) (by omega) (by omega)).trans (ru_ne (by omega) (ru_ne (by omega) g82))
  have g121 : τ100 (b + 7) = some (aJ V 6 (fun _ => 0)) := (hf113 (b + 7) (by omega) (by omega)).trans (ru_ne (by omega) (ru_ne (by omega) g83))
  have g122 : τ100 (b + 8) = some (ob 0 [.long 0, .long 0]) := (hf113 (b + 8) (by omega) (by omega)).trans (ru_ne (by omega) (ru_ne (by omega) g84))
  have g123 : τ100 (b + 9) = some (ob 0 [.long 0, .long 0]) := (hf113 (b + 9) (by omega) (by omega)).trans (ru_ne (by omega) (ru_ne (by omega) g85))
  have g124 : τ100 (b + 10) = some (ob 0 [.long 0, .long 0]) := (hf113 (b + 10) (by omega) (by omega)).trans (ru_ne (by omega) (ru_ne (by omega) g86))
  have g125 : τ100 (b + 11) = some (ob 3 [.int 0, .int 0, .int 0, .int 0, .int 0, .int 0, .int 0, .int 0, .int 0, .int 0, .int 0, .int 0, .int 0, .ref (b + 12), .ref (b + 13), .ref (b + 14), .ref (b + 18), .ref (b + 22)]) := (hf113 (b + 11) (by omega) (by omega)).trans (ru_ne (by omega) (ru_ne (by omega) g87))
  have g126 : τ100 (b + 12) = some (ob 0 [.long 0, .long 0]) := (hf113 (b + 12) (by omega) (by omega)).trans (ru_ne (by omega) (ru_ne (by omega) g88))
  have g127 : τ100 (b + 13) = some (ob 0 [.long 0, .long 0]) := (hf113 (b + 13) (by omega) (by omega)).trans (ru_ne (by omega) (ru_ne (by omega) g89))
  have g128 : τ100 (b + 14) = some (ob 6 [.ref (b + 15), .ref (b + 16), .ref (b + 17)]) := (hf113 (b + 14) (by omega) (by omega)).trans (ru_ne (by omega) (ru_ne (by omega) g90))
  have g129 : τ100 (b + 15) = some (aJ V 72 (fun _ => 0)) := (hf113 (b + 15) (by omega) (by omega)).trans (ru_ne (by omega) (ru_ne (by omega) g91))
  have g130 : τ100 (b + 16) = some (aJ V 72 (fun _ => 0)) := (hf113 (b + 16) (by omega) (by omega)).trans (ru_ne (by omega) (ru_ne (by omega) g92))
  have g131 : τ100 (b + 17) = some (ob 0 [.long 0, .long 0]) := (hf113 (b + 17) (by omega) (by omega)).trans (ru_ne (by omega) (ru_ne (by omega) g93))
  have g132 : τ100 (b + 18) = some (ob 6 [.ref (b + 19), .ref (b + 20), .ref (b + 21)]) := (hf113 (b + 18) (by omega) (by omega)).trans (ru_ne (by omega) (ru_ne (by omega) g94))
  have g133 : τ100 (b + 19) = some (aJ V 72 (fun _ => 0)) := (hf113 (b + 19) (by omega) (by omega)).trans (ru_ne (by omega) (ru_ne (by omega) g95))
  have g134 : τ100 (b + 20) = some (aJ V 72 (fun _ => 0)) := (hf113 (b + 20) (by omega) (by omega)).trans (ru_ne (by omega) (ru_ne (by omega) g96))
  have g135 : τ100 (b + 21) = some (ob 0 [.long 0, .long 0]) := (hf113 (b + 21) (by omega) (by omega)).trans (ru_ne (by omega) (ru_ne (by omega) g97))
  have g136 : τ100 (b + 22) = some (aJ V 5 (fun _ => 0)) := (hf113 (b + 22) (by omega) (by omega)).trans (ru_ne (by omega) (ru_ne (by omega) g98))
  have g137 : τ100 (b + 23) = some (ob 3 [.int 0, .int 0, .int 0, .int 0, .int 0, .int 0, .int 0, .int 0, .int 0, .int 0, .int 0, .int 0, .int 0, .ref (b + 24), .ref (b + 25), .ref (b + 26), .ref (b + 30), .ref (b + 34)]) := (hf113 (b + 23) (by omega) (by omega)).trans (ru_ne (by omega) (ru_ne (by omega) h63))
  have g138 : τ100 (b + 24) = some (ob 0 [.long 0, .long 0]) := (hf113 (b + 24) (by omega) (by omega)).trans (ru_ne (by omega) (ru_ne (by omega) h64))
  have g139 : τ100 (b + 25) = some (ob 0 [.long 0, .long 0]) := (hf113 (b + 25) (by omega) (by omega)).trans (ru_ne (by omega) (ru_ne (by omega) h65))
  have g140 : τ100 (b + 26) = some (ob 6 [.ref (b + 27), .ref (b + 28), .ref (b + 29)]) := (hf113 (b + 26) (by omega) (by omega)).trans (ru_ne (by omega) (ru_ne (by omega) h66))
  have g141 : τ100 (b + 27) = some (aJ V 72 (fun _ => 0)) := (hf113 (b + 27) (by omega) (by omega)).trans (ru_ne (by omega) (ru_ne (by omega) h67))
  have g142 : τ100 (b + 28) = some (aJ V 72 (fun _ => 0)) := (hf113 (b + 28) (by omega) (by omega)).trans (ru_ne (by omega) (ru_ne (by omega) h68))
  have g143 : τ100 (b + 29) = some (ob 0 [.long 0, .long 0]) := (hf113 (b + 29) (by omega) (by omega)).trans (ru_ne (by omega) (ru_ne (by omega) h69))
  have g144 : τ100 (b + 30) = some (ob 6 [.ref (b + 31), .ref (b + 32), .ref (b + 33)]) := (hf113 (b + 30) (by omega) (by omega)).trans (ru_ne (by omega) (ru_ne (by omega) h70))
  have g145 : τ100 (b + 31) = some (aJ V 72 (fun _ => 0)) := (hf113 (b + 31) (by omega) (by omega)).trans (ru_ne (by omega) (ru_ne (by omega) h71))
  have g146 : τ100 (b + 32) = some (aJ V 72 (fun _ => 0)) := (hf113 (b + 32) (by omega) (by omega)).trans (ru_ne (by omega) (ru_ne (by omega) h72))
  have g147 : τ100 (b + 33) = some (ob 0 [.long 0, .long 0]) := (hf113 (b + 33) (by omega) (by omega)).trans (ru_ne (by omega) (ru_ne (by omega) h73))
  have g148 : τ100 (b + 34) = some (aJ V 5 (fun _ => 0)) := (hf113 (b + 34) (by omega) (by omega)).trans (ru_ne (by omega) (ru_ne (by omega) h74))
  have fr149 : ∀ q : Nat, q < b → τ100 q = σ q := fun q h1 => (hf113 q (by omega) (by omega)).trans (ru_ne (by omega) (ru_ne (by omega) (fr99 q h1)))
  refine m_aast F (j := 2) e_X2_init_99 g115 rfl h101 rfl (by decide) (by unfold vp_in; decide) rfl rfl ?_
  refine m_iinc F (v := 3) (lv' := [(1, .int 3), (0, .ref b)]) e_X2_init_100 rfl (by decide) (by decide) rfl ?_
  refine m_goto F e_X2_init_103 ?_
  refine m_iload_n F rfl e_X2_init_82 ?_
  refine m_iconst F (v := 4) (by decide) e_X2_init_83 ?_
  refine m_icmp_ge F e_X2_init_84 (fun q => absurd q (by decide)) (fun _ => ?_)
  refine m_aload_n F rfl e_X2_init_87 ?_
  refine m_get F e_X2_init_88 fl_X2_11 (ru_ne (by omega) g114) rfl ?_
  refine m_iload_n F rfl e_X2_init_91 ?_
  refine m_new F e_X2_init_92 fn_X2_9 (k' := 47) (z' := 1484) (N' := b + 48) rfl rfl rfl (Nat.le_of_ble_eq_true rfl) (Nat.le_of_ble_eq_true rfl) ?_
  refine m_dup F rfl e_X2_init_95 ?_
  refine m_callIN F e_X2_init_96 (k_Lease_init (x_l X) V (b + 48) _ (b + 47) (by omega) ru_eq) cb_X5_init (by simp [nestW, yX2_init]) im_X5_init rfl rfl (rest := [.ref (b + 47), .int 3, .ref (b + 1)]) rfl (Nat.le_of_ble_eq_true rfl) ⟨Nat.le_of_ble_eq_true rfl, Nat.le_of_ble_eq_true rfl⟩ ⟨Nat.le_of_ble_eq_true rfl, Nat.le_of_ble_eq_true rfl⟩ (k' := 58) (z' := 1791) (N' := b + 59) rfl rfl rfl (fun r τ150 hp => ?_)
  obtain ⟨rfl, h151, h152, h153, h154, h155, h156, h157, h158, h159, h160, h161, h162, hf163⟩ := hp
  have g164 : τ150 b = some (ob 1 [.ref (b + 1), .ref (b + 2), .ref (b + 3), .ref (b + 4), .ref (b + 5), .ref (b + 8), .ref (b + 9), .ref (b + 10), .int 0, .int 0, .int 0, .int 0, .int 0]) := (hf163 b (by omega) (by omega)).trans (ru_ne (by omega) (ru_ne (by omega) g114))
  have g165 : τ150 (b + 1) = some (aR 4 V 4 (va_up (va_up (va_up (fun _ => none) 0 (some (b + 11))) 1 (some (b + 23))) 2 (some (b + 35)))) := (hf163 (b + 1) (by omega) (by omega)).trans (ru_ne (by omega) ru_eq)
  have g166 : τ150 (b + 2) = some (aR 5 V 4 (fun _ => none)) := (hf163 (b + 2) (by omega) (by omega)).trans (ru_ne (by omega) (ru_ne (by omega) g116))
  have g167 : τ150 (b + 3) = some (aI V 100 (fun _ => 0)) := (hf163 (b + 3) (by omega) (by omega)).trans (ru_ne (by omega) (ru_ne (by omega) g117))
  have g168 : τ150 (b + 4) = some (aI V 8 (fun _ => 0)) := (hf163 (b + 4) (by omega) (by omega)).trans (ru_ne (by omega) (ru_ne (by omega) g118))
  have g169 : τ150 (b + 5) = some (ob 2 [.ref (b + 6), .ref (b + 7), .int 0]) := (hf163 (b + 5) (by omega) (by omega)).trans (ru_ne (by omega) (ru_ne (by omega) g119))
  have g170 : τ150 (b + 6) = some (aJ V 360 (fun _ => 0)) := (hf163 (b + 6) (by omega) (by omega)).trans (ru_ne (by omega) (ru_ne (by omega) g120))
  have g171 : τ150 (b + 7) = some (aJ V 6 (fun _ => 0)) := (hf163 (b + 7) (by omega) (by omega)).trans (ru_ne (by omega) (ru_ne (by omega) g121))
  have g172 : τ150 (b + 8) = some (ob 0 [.long 0, .long 0]) := (hf163 (b + 8) (by omega) (by omega)).trans (ru_ne (by omega) (ru_ne (by omega) g122))
  have g173 : τ150 (b + 9) = some (ob 0 [.long 0, .long 0]) := (hf163 (b + 9) (by omega) (by omega)).trans (ru_ne (by omega) (ru_ne (by omega) g123))
  have g174 : τ150 (b + 10) = some (ob 0 [.long 0, .long 0]) := (hf163 (b + 10) (by omega) (by omega)).trans (ru_ne (by omega) (ru_ne (by omega) g124))
  have g175 : τ150 (b + 11) = some (ob 3 [.int 0, .int 0, .int 0, .int 0, .int 0, .int 0, .int 0, .int 0, .int 0, .int 0, .int 0, .int 0, .int 0, .ref (b + 12), .ref (b + 13), .ref (b + 14), .ref (b + 18), .ref (b + 22)]) := (hf163 (b + 11) (by omega) (by omega)).trans (ru_ne (by omega) (ru_ne (by omega) g125))
  have g176 : τ150 (b + 12) = some (ob 0 [.long 0, .long 0]) := (hf163 (b + 12) (by omega) (by omega)).trans (ru_ne (by omega) (ru_ne (by omega) g126))
  have g177 : τ150 (b + 13) = some (ob 0 [.long 0, .long 0]) := (hf163 (b + 13) (by omega) (by omega)).trans (ru_ne (by omega) (ru_ne (by omega) g127))
  have g178 : τ150 (b + 14) = some (ob 6 [.ref (b + 15), .ref (b + 16), .ref (b + 17)]) := (hf163 (b + 14) (by omega) (by omega)).trans (ru_ne (by omega) (ru_ne (by omega) g128))
  have g179 : τ150 (b + 15) = some (aJ V 72 (fun _ => 0)) := (hf163 (b + 15) (by omega) (by omega)).trans (ru_ne (by omega) (ru_ne (by omega) g129))
  have g180 : τ150 (b + 16) = some (aJ V 72 (fun _ => 0)) := (hf163 (b + 16) (by omega) (by omega)).trans (ru_ne (by omega) (ru_ne (by omega) g130))
  have g181 : τ150 (b + 17) = some (ob 0 [.long 0, .long 0]) := (hf163 (b + 17) (by omega) (by omega)).trans (ru_ne (by omega) (ru_ne (by omega) g131))
  have g182 : τ150 (b + 18) = some (ob 6 [.ref (b + 19), .ref (b + 20), .ref (b + 21)]) := (hf163 (b + 18) (by omega) (by omega)).trans (ru_ne (by omega) (ru_ne (by omega) g132))
  have g183 : τ150 (b + 19) = some (aJ V 72 (fun _ => 0)) := (hf163 (b + 19) (by omega) (by omega)).trans (ru_ne (by omega) (ru_ne (by omega) g133))
  have g184 : τ150 (b + 20) = some (aJ V 72 (fun _ => 0)) := (hf163 (b + 20) (by omega) (by omega)).trans (ru_ne (by omega) (ru_ne (by omega) g134))
  have g185 : τ150 (b + 21) = some (ob 0 [.long 0, .long 0]) := (hf163 (b + 21) (by omega) (by omega)).trans (ru_ne (by omega) (ru_ne (by omega) g135))
  have g186 : τ150 (b + 22) = some (aJ V 5 (fun _ => 0)) := (hf163 (b + 22) (by omega) (by omega)).trans (ru_ne (by omega) (ru_ne (by omega) g136))
  have g187 : τ150 (b + 23) = some (ob 3 [.int 0, .int 0, .int 0, .int 0, .int 0, .int 0, .int 0, .int 0, .int 0, .int 0, .int 0, .int 0, .int 0, .ref (b + 24), .ref (b + 25), .ref (b + 26), .ref (b + 30), .ref (b + 34)]) := (hf163 (b + 23) (by omega) (by omega)).trans (ru_ne (by omega) (ru_ne (by omega) g137))
  have g188 : τ150 (b + 24) = some (ob 0 [.long 0, .long 0]) := (hf163 (b + 24) (by omega) (by omega)).trans (ru_ne (by omega) (ru_ne (by omega) g138))
  have g189 : τ150 (b + 25) = some (ob 0 [.long 0, .long 0]) := (hf163 (b + 25) (by omega) (by omega)).trans (ru_ne (by omega) (ru_ne (by omega) g139))
  have g190 : τ150 (b + 26) = some (ob 6 [.ref (b + 27), .ref (b + 28), .ref (b + 29)]) := (hf163 (b + 26) (by omega) (by omega)).trans (ru_ne (by omega) (ru_ne (by omega) g140))
  have g191 : τ150 (b + 27) = some (aJ V 72 (fun _ => 0)) := (hf163 (b + 27) (by omega) (by omega)).trans (ru_ne (by omega) (ru_ne (by omega) g141))
  have g192 : τ150 (b + 28) = some (aJ V 72 (fun _ => 0)) := (hf163 (b + 28) (by omega) (by omega)).trans (ru_ne (by omega) (ru_ne (by omega) g142))
  have g193 : τ150 (b + 29) = some (ob 0 [.long 0, .long 0]) := (hf163 (b + 29) (by omega) (by omega)).trans (ru_ne (by omega) (ru_ne (by omega) g143))
  have g194 : τ150 (b + 30) = some (ob 6 [.ref (b + 31), .ref (b + 32), .ref (b + 33)]) := (hf163 (b + 30) (by omega) (by omega)).trans (ru_ne (by omega) (ru_ne (by omega) g144))
  have g195 : τ150 (b + 31) = some (aJ V 72 (fun _ => 0)) := (hf163 (b + 31) (by omega) (by omega)).trans (ru_ne (by omega) (ru_ne (by omega) g145))
  have g196 : τ150 (b + 32) = some (aJ V 72 (fun _ => 0)) := (hf163 (b + 32) (by omega) (by omega)).trans (ru_ne (by omega) (ru_ne (by omega) g146))
  have g197 : τ150 (b + 33) = some (ob 0 [.long 0, .long 0]) := (hf163 (b + 33) (by omega) (by omega)).trans (ru_ne (by omega) (ru_ne (by omega) g147))
  have g198 : τ150 (b + 34) = some (aJ V 5 (fun _ => 0)) := (hf163 (b + 34) (by omega) (by omega)).trans (ru_ne (by omega) (ru_ne (by omega) g148))
  have g199 : τ150 (b + 35) = some (ob 3 [.int 0, .int 0, .int 0, .int 0, .int 0, .int 0, .int 0, .int 0, .int 0, .int 0, .int 0, .int 0, .int 0, .ref (b + 36), .ref (b + 37), .ref (b + 38), .ref (b + 42), .ref (b + 46)]) := (hf163 (b + 35) (by omega) (by omega)).trans (ru_ne (by omega) (ru_ne (by omega) h101))
  have g200 : τ150 (b + 36) = some (ob 0 [.long 0, .long 0]) := (hf163 (b + 36) (by omega) (by omega)).trans (ru_ne (by omega) (ru_ne (by omega) h102))
  have g201 : τ150 (b + 37) = some (ob 0 [.long 0, .long 0]) := (hf163 (b + 37) (by omega) (by omega)).trans (ru_ne (by omega) (ru_ne (by omega) h103))
  have g202 : τ150 (b + 38) = some (ob 6 [.ref (b + 39), .ref (b + 40), .ref (b + 41)]) := (hf163 (b + 38) (by omega) (by omega)).trans (ru_ne (by omega) (ru_ne (by omega) h104))
  have g203 : τ150 (b + 39) = some (aJ V 72 (fun _ => 0)) := (hf163 (b + 39) (by omega) (by omega)).trans (ru_ne (by omega) (ru_ne (by omega) h105))
  have g204 : τ150 (b + 40) = some (aJ V 72 (fun _ => 0)) := (hf163 (b + 40) (by omega) (by omega)).trans (ru_ne (by omega) (ru_ne (by omega) h106))
  have g205 : τ150 (b + 41) = some (ob 0 [.long 0, .long 0]) := (hf163 (b + 41) (by omega) (by omega)).trans (ru_ne (by omega) (ru_ne (by omega) h107))
  have g206 : τ150 (b + 42) = some (ob 6 [.ref (b + 43), .ref (b + 44), .ref (b + 45)]) := (hf163 (b + 42) (by omega) (by omega)).trans (ru_ne (by omega) (ru_ne (by omega) h108))
  have g207 : τ150 (b + 43) = some (aJ V 72 (fun _ => 0)) := (hf163 (b + 43) (by omega) (by omega)).trans (ru_ne (by omega) (ru_ne (by omega) h109))
  have g208 : τ150 (b + 44) = some (aJ V 72 (fun _ => 0)) := (hf163 (b + 44) (by omega) (by omega)).trans (ru_ne (by omega) (ru_ne (by omega) h110))
  have g209 : τ150 (b + 45) = some (ob 0 [.long 0, .long 0]) := (hf163 (b + 45) (by omega) (by omega)).trans (ru_ne (by omega) (ru_ne (by omega) h111))
  have g210 : τ150 (b + 46) = some (aJ V 5 (fun _ => 0)) := (hf163 (b + 46) (by omega) (by omega)).trans (ru_ne (by omega) (ru_ne (by omega) h112))
  have fr211 : ∀ q : Nat, q < b → τ150 q = σ q := fun q h1 => (hf163 q (by omega) (by omega)).trans (ru_ne (by omega) (ru_ne (by omega) (fr149 q h1)))
  refine m_aast F (j := 3) e_X2_init_99 g165 rfl h151 rfl (by decide) (by unfold vp_in; decide) rfl rfl ?_
  refine m_iinc F (v := 4) (lv' := [(1, .int 4), (0, .ref b)]) e_X2_init_100 rfl (by decide) (by decide) rfl ?_
  refine m_goto F e_X2_init_103 ?_
  refine m_iload_n F rfl e_X2_init_82 ?_
  refine m_iconst F (v := 4) (by decide) e_X2_init_83 ?_
  refine m_icmp_ge F e_X2_init_84 (fun _ => ?_) (fun q => absurd (by decide) q)
  refine m_iconst F (v := 0) (by decide) e_X2_init_106 ?_
  refine m_istore_n F (lv' := [(1, .int 0), (0, .ref b)]) e_X2_init_107 (by decide) rfl ?_
  refine m_iload_n F rfl e_X2_init_108 ?_
  refine m_iconst F (v := 4) (by decide) e_X2_init_109 ?_
  refine m_icmp_ge F e_X2_init_110 (fun q => absurd q (by decide)) (fun _ => ?_)
  refine m_aload_n F rfl e_X2_init_113 ?_
  refine m_get F e_X2_init_114 fl_X2_19 (ru_ne (by omega) g164) rfl ?_
  refine m_iload_n F rfl e_X2_init_117 ?_
  refine m_new F e_X2_init_118 fn_X2_17 (k' := 59) (z' := 1795) (N' := b + 60) rfl rfl rfl (Nat.le_of_ble_eq_true rfl) (Nat.le_of_ble_eq_true rfl) ?_
  refine m_dup F rfl e_X2_init_121 ?_
  refine m_callIN F e_X2_init_122 (k_Option_init (x_l X) V _ _ (b + 59)) cb_X6_init (by simp [nestW, yX2_init]) im_X6_init rfl rfl (rest := [.ref (b + 59), .int 0, .ref (b + 2)]) rfl (Nat.le_of_ble_eq_true rfl) ⟨Nat.le_of_ble_eq_true rfl, Nat.le_of_ble_eq_true rfl⟩ ⟨Nat.le_of_ble_eq_true rfl, Nat.le_of_ble_eq_true rfl⟩ (k' := 59) (z' := 1795) (N' := b + 60) rfl rfl rfl (fun r τ hp => ?_)
  obtain ⟨rfl, rfl⟩ := hp
  refine m_aast F (j := 0) e_X2_init_125 (ru_ne (by omega) (ru_ne (by omega) g166)) rfl ru_eq rfl (by decide) (by unfold vp_in; decide) rfl rfl ?_
  refine m_iinc F (v := 1) (lv' := [(1, .int 1), (0, .ref b)]) e_X2_init_126 rfl (by decide) (by decide) rfl ?_
  refine m_goto F e_X2_init_129 ?_
  refine m_iload_n F rfl e_X2_init_108 ?_
  refine m_iconst F (v := 4) (by decide) e_X2_init_109 ?_
  refine m_icmp_ge F e_X2_init_110 (fun q => absurd q (by decide)) (fun _ => ?_)
  refine m_aload_n F rfl e_X2_init_113 ?_
  refine m_get F e_X2_init_114 fl_X2_19 (ru_ne (by omega) (ru_ne (by omega) (ru_ne (by omega) g164))) rfl ?_
  refine m_iload_n F rfl e_X2_init_117 ?_
  refine m_new F e_X2_init_118 fn_X2_17 (k' := 60) (z' := 1799) (N' := b + 61) rfl rfl rfl (Nat.le_of_ble_eq_true rfl) (Nat.le_of_ble_eq_true rfl) ?_
  refine m_dup F rfl e_X2_init_121 ?_
  refine m_callIN F e_X2_init_122 (k_Option_init (x_l X) V _ _ (b + 60)) cb_X6_init (by simp [nestW, yX2_init]) im_X6_init rfl rfl (rest := [.ref (b + 60), .int 1, .ref (b + 2)]) rfl (Nat.le_of_ble_eq_true rfl) ⟨Nat.le_of_ble_eq_true rfl, Nat.le_of_ble_eq_true rfl⟩ ⟨Nat.le_of_ble_eq_true rfl, Nat.le_of_ble_eq_true rfl⟩ (k' := 60) (z' := 1799) (N' := b + 61) rfl rfl rfl (fun r τ hp => ?_)
  obtain ⟨rfl, rfl⟩ := hp
  refine m_aast F (j := 1) e_X2_init_125 (ru_ne (by omega) ru_eq) rfl ru_eq rfl (by decide) (by unfold vp_in; decide) rfl rfl ?_
  refine m_iinc F (v := 2) (lv' := [(1, .int 2), (0, .ref b)]) e_X2_init_126 rfl (by decide) (by decide) rfl ?_
  refine m_goto F e_X2_init_129 ?_
  refine m_iload_n F rfl e_X2_init_108 ?_
  refine m_iconst F (v := 4) (by decide) e_X2_init_109 ?_
  refine m_icmp_ge F e_X2_init_110 (fun q => absurd q (by decide)) (fun _ => ?_)
  refine m_aload_n F rfl e_X2_init_113 ?_
  refine m_get F e_X2_init_114 fl_X2_19 (ru_ne (by omega) (ru_ne (by omega) (ru_ne (by omega) (ru_ne (by omega) (ru_ne (by omega) g164))))) rfl ?_
  refine m_iload_n F rfl e_X2_init_117 ?_
  refine m_new F e_X2_init_118 fn_X2_17 (k' := 61) (z' := 1803) (N' := b + 62) rfl rfl rfl (Nat.le_of_ble_eq_true rfl) (Nat.le_of_ble_eq_true rfl) ?_
  refine m_dup F rfl e_X2_init_121 ?_
  refine m_callIN F e_X2_init_122 (k_Option_init (x_l X) V _ _ (b + 61)) cb_X6_init (by simp [nestW, yX2_init]) im_X6_init rfl rfl (rest := [.ref (b + 61), .int 2, .ref (b + 2)]) rfl (Nat.le_of_ble_eq_true rfl) ⟨Nat.le_of_ble_eq_true rfl, Nat.le_of_ble_eq_true rfl⟩ ⟨Nat.le_of_ble_eq_true rfl, Nat.le_of_ble_eq_true rfl⟩ (k' := 61) (z' := 1803) (N' := b + 62) rfl rfl rfl (fun r τ hp => ?_)
  obtain ⟨rfl, rfl⟩ := hp
  refine m_aast F (j := 2) e_X2_init_125 (ru_ne (by omega) ru_eq) rfl ru_eq rfl (by decide) (by unfold vp_in; decide) rfl rfl ?_
  refine m_iinc F (v := 3) (lv' := [(1, .int 3), (0, .ref b)]) e_X2_init_126 rfl (by decide) (by decide) rfl ?_
  refine m_goto F e_X2_init_129 ?_
  refine m_iload_n F rfl e_X2_init_108 ?_
  refine m_iconst F (v := 4) (by decide) e_X2_init_109 ?_
  refine m_icmp_ge F e_X2_init_110 (fun q => absurd q (by decide)) (fun _ => ?_)
  refine m_aload_n F rfl e_X2_init_113 ?_
  refine m_get F e_X2_init_114 fl_X2_19 (ru_ne (by omega) (ru_ne (by omega) (ru_ne (by omega) (ru_ne (by omega) (ru_ne (by omega) (ru_ne (by omega) (ru_ne (by omega) g164))))))) rfl ?_
  refine m_iload_n F rfl e_X2_init_117 ?_
  refine m_new F e_X2_init_118 fn_X2_17 (k' := 62) (z' := 1807) (N' := b + 63) rfl rfl rfl (Nat.le_of_ble_eq_true rfl) (Nat.le_of_ble_eq_true rfl) ?_
  refine m_dup F rfl e_X2_init_121 ?_
  refine m_callIN F e_X2_init_122 (k_Option_init (x_l X) V _ _ (b + 62)) cb_X6_init (by simp [nestW, yX2_init]) im_X6_init rfl rfl (rest := [.ref (b + 62), .int 3, .ref (b + 2)]) rfl (Nat.le_of_ble_eq_true rfl) ⟨Nat.le_of_ble_eq_true rfl, Nat.le_of_ble_eq_true rfl⟩ ⟨Nat.le_of_ble_eq_true rfl, Nat.le_of_ble_eq_true rfl⟩ (k' := 62) (z' := 1807) (N' := b + 63) rfl rfl rfl (fun r τ hp => ?_)
  obtain ⟨rfl, rfl⟩ := hp
  refine m_aast F (j := 3) e_X2_init_125 (ru_ne (by omega) ru_eq) rfl ru_eq rfl (by decide) (by unfold vp_in; decide) rfl rfl ?_
  refine m_iinc F (v := 4) (lv' := [(1, .int 4), (0, .ref b)]) e_X2_init_126 rfl (by decide) (by decide) rfl ?_
  refine m_goto F e_X2_init_129 ?_
  refine m_iload_n F rfl e_X2_init_108 ?_
  refine m_iconst F (v := 4) (by decide) e_X2_init_109 ?_
  refine m_icmp_ge F e_X2_init_110 (fun _ => ?_) (fun q => absurd (by decide) q)
  refine m_aload_n F rfl e_X2_init_132 ?_
  refine m_get F e_X2_init_133 fl_X2_23 (ru_ne (by omega) (ru_ne (by omega) (ru_ne (by omega) (ru_ne (by omega) (ru_ne (by omega) (ru_ne (by omega) (ru_ne (by omega) (ru_ne (by omega) (ru_ne (by omega) g164))))))))) rfl ?_
  refine m_sipush F (v := 1000) (by decide) e_X2_init_136 ?_
  refine m_callS F e_X2_init_139 (k_fillI (x_l X) V _ _ (b + 3) 100 (fun _ => 0) 1000 (by decide) (ru_ne (by omega) (ru_ne (by omega) (ru_ne (by omega) (ru_ne (by omega) (ru_ne (by omega) (ru_ne (by omega) (ru_ne (by omega) (ru_ne (by omega) (ru_ne (by omega) g167)))))))))) cb_J7_fill_53178 ml_X2_52 sm_J7_fill_53178 rfl (rest := []) rfl (Nat.le_of_ble_eq_true rfl) ⟨Nat.le_of_ble_eq_true rfl, Nat.le_of_ble_eq_true rfl⟩ ⟨Nat.le_of_ble_eq_true rfl, Nat.le_of_ble_eq_true rfl⟩ (k' := 62) (z' := 1807) (N' := b + 63) rfl rfl rfl (fun r τ hp => ?_)
  obtain ⟨rfl, rfl⟩ := hp
  refine reI (g := (fun _ => 1000)) (fun j hj => by simp only [fillI]; rw [if_pos ⟨Nat.zero_le _, hj⟩]) ?_
  exact m_vret F hQ e_X2_init_142 (⟨rfl, ⟨⟨(ru_ne (by omega) (ru_ne (by omega) (ru_ne (by omega) (ru_ne (by omega) (ru_ne (by omega) (ru_ne (by omega) (ru_ne (by omega) (ru_ne (by omega) (ru_ne (by omega) (ru_ne (by omega) g164)))))))))), (ru_ne (by omega) (ru_ne (by omega) (ru_ne (by omega) (ru_ne (by omega) (ru_ne (by omega) (ru_ne (by omega) (ru_ne (by omega) (ru_ne (by omega) (ru_ne (by omega) ru_eq))))))))), (ru_ne (by omega) ru_eq), ru_eq, (ru_ne (by omega) (ru_ne (by omega) (ru_ne (by omega) (ru_ne (by omega) (ru_ne (by omega) (ru_ne (by omega) (ru_ne (by omega) (ru_ne (by omega) (ru_ne (by omega) (ru_ne (by omega) g168)))))))))), (ru_ne (by omega) (ru_ne (by omega) (ru_ne (by omega) (ru_ne (by omega) (ru_ne (by omega) (ru_ne (by omega) (ru_ne (by omega) (ru_ne (by omega) (ru_ne (by omega) (ru_ne (by omega) g169)))))))))), (ru_ne (by omega) (ru_ne (by omega) (ru_ne (by omega) (ru_ne (by omega) (ru_ne (by omega) (ru_ne (by omega) (ru_ne (by omega) (ru_ne (by omega) (ru_ne (by omega) (ru_ne (by omega) g170)))))))))), (ru_ne (by omega) (ru_ne (by omega) (ru_ne (by omega) (ru_ne (by omega) (ru_ne (by omega) (ru_ne (by omega) (ru_ne (by omega) (ru_ne (by omega) (ru_ne (by omega) (ru_ne (by omega) g171)))))))))), (ru_ne (by omega) (ru_ne (by omega) (ru_ne (by omega) (ru_ne (by omega) (ru_ne (by omega) (ru_ne (by omega) (ru_ne (by omega) (ru_ne (by omega) (ru_ne (by omega) (ru_ne (by omega) g172)))))))))), (ru_ne (by omega) (ru_ne (by omega) (ru_ne (by omega) (ru_ne (by omega) (ru_ne (by omega) (ru_ne (by omega) (ru_ne (by omega) (ru_ne (by omega) (ru_ne (by omega) (ru_ne (by omega) g173)))))))))), (ru_ne (by omega) (ru_ne (by omega) (ru_ne (by omega) (ru_ne (by omega) (ru_ne (by omega) (ru_ne (by omega) (ru_ne (by omega) (ru_ne (by omega) (ru_ne (by omega) (ru_ne (by omega) g174))))))))))⟩, ⟨(ru_ne (by omega) (ru_ne (by omega) (ru_ne (by omega) (ru_ne (by omega) (ru_ne (by omega) (ru_ne (by omega) (ru_ne (by omega) (ru_ne (by omega) (ru_ne (by omega) (ru_ne (by omega) g175)))))))))), (ru_ne (by omega) (ru_ne (by omega) (ru_ne (by omega) (ru_ne (by omega) (ru_ne (by omega) (ru_ne (by omega) (ru_ne (by omega) (ru_ne (by omega) (ru_ne (by omega) (ru_ne (by omega) g176)))))))))), (ru_ne (by omega) (ru_ne (by omega) (ru_ne (by omega) (ru_ne (by omega) (ru_ne (by omega) (ru_ne (by omega) (ru_ne (by omega) (ru_ne (by omega) (ru_ne (by omega) (ru_ne (by omega) g177)))))))))), (ru_ne (by omega) (ru_ne (by omega) (ru_ne (by omega) (ru_ne (by omega) (ru_ne (by omega) (ru_ne (by omega) (ru_ne (by omega) (ru_ne (by omega) (ru_ne (by omega) (ru_ne (by omega) g178)))))))))), (ru_ne (by omega) (ru_ne (by omega) (ru_ne (by omega) (ru_ne (by omega) (ru_ne (by omega) (ru_ne (by omega) (ru_ne (by omega) (ru_ne (by omega) (ru_ne (by omega) (ru_ne (by omega) g179)))))))))), (ru_ne (by omega) (ru_ne (by omega) (ru_ne (by omega) (ru_ne (by omega) (ru_ne (by omega) (ru_ne (by omega) (ru_ne (by omega) (ru_ne (by omega) (ru_ne (by omega) (ru_ne (by omega) g180)))))))))), (ru_ne (by omega) (ru_ne (by omega) (ru_ne (by omega) (ru_ne (by omega) (ru_ne (by omega) (ru_ne (by omega) (ru_ne (by omega) (ru_ne (by omega) (ru_ne (by omega) (ru_ne (by omega) g181)))))))))), (ru_ne (by omega) (ru_ne (by omega) (ru_ne (by omega) (ru_ne (by omega) (ru_ne (by omega) (ru_ne (by omega) (ru_ne (by omega) (ru_ne (by omega) (ru_ne (by omega) (ru_ne (by omega) g182)))))))))), (ru_ne (by omega) (ru_ne (by omega) (ru_ne (by omega) (ru_ne (by omega) (ru_ne (by omega) (ru_ne (by omega) (ru_ne (by omega) (ru_ne (by omega) (ru_ne (by omega) (ru_ne (by omega) g183)))))))))), (ru_ne (by omega) (ru_ne (by omega) (ru_ne (by omega) (ru_ne (by omega) (ru_ne (by omega) (ru_ne (by omega) (ru_ne (by omega) (ru_ne (by omega) (ru_ne (by omega) (ru_ne (by omega) g184)))))))))), (ru_ne (by omega) (ru_ne (by omega) (ru_ne (by omega) (ru_ne (by omega) (ru_ne (by omega) (ru_ne (by omega) (ru_ne (by omega) (ru_ne (by omega) (ru_ne (by omega) (ru_ne (by omega) g185)))))))))), (ru_ne (by omega) (ru_ne (by omega) (ru_ne (by omega) (ru_ne (by omega) (ru_ne (by omega) (ru_ne (by omega) (ru_ne (by omega) (ru_ne (by omega) (ru_ne (by omega) (ru_ne (by omega) g186))))))))))⟩, ⟨(ru_ne (by omega) (ru_ne (by omega) (ru_ne (by omega) (ru_ne (by omega) (ru_ne (by omega) (ru_ne (by omega) (ru_ne (by omega) (ru_ne (by omega) (ru_ne (by omega) (ru_ne (by omega) g187)))))))))), (ru_ne (by omega) (ru_ne (by omega) (ru_ne (by omega) (ru_ne (by omega) (ru_ne (by omega) (ru_ne (by omega) (ru_ne (by omega) (ru_ne (by omega) (ru_ne (by omega) (ru_ne (by omega) g188)))))))))), (ru_ne (by omega) (ru_ne (by omega) (ru_ne (by omega) (ru_ne (by omega) (ru_ne (by omega) (ru_ne (by omega) (ru_ne (by omega) (ru_ne (by omega) (ru_ne (by omega) (ru_ne (by omega) g189)))))))))), (ru_ne (by omega) (ru_ne (by omega) (ru_ne (by omega) (ru_ne (by omega) (ru_ne (by omega) (ru_ne (by omega) (ru_ne (by omega) (ru_ne (by omega) (ru_ne (by omega) (ru_ne (by omega) g190)))))))))), (ru_ne (by omega) (ru_ne (by omega) (ru_ne (by omega) (ru_ne (by omega) (ru_ne (by omega) (ru_ne (by omega) (ru_ne (by omega) (ru_ne (by omega) (ru_ne (by omega) (ru_ne (by omega) g191)))))))))), (ru_ne (by omega) (ru_ne (by omega) (ru_ne (by omega) (ru_ne (by omega) (ru_ne (by omega) (ru_ne (by omega) (ru_ne (by omega) (ru_ne (by omega) (ru_ne (by omega) (ru_ne (by omega) g192)))))))))), (ru_ne (by omega) (ru_ne (by omega) (ru_ne (by omega) (ru_ne (by omega) (ru_ne (by omega) (ru_ne (by omega) (ru_ne (by omega) (ru_ne (by omega) (ru_ne (by omega) (ru_ne (by omega) g193)))))))))), (ru_ne (by omega) (ru_ne (by omega) (ru_ne (by omega) (ru_ne (by omega) (ru_ne (by omega) (ru_ne (by omega) (ru_ne (by omega) (ru_ne (by omega) (ru_ne (by omega) (ru_ne (by omega) g194)))))))))), (ru_ne (by omega) (ru_ne (by omega) (ru_ne (by omega) (ru_ne (by omega) (ru_ne (by omega) (ru_ne (by omega) (ru_ne (by omega) (ru_ne (by omega) (ru_ne (by omega) (ru_ne (by omega) g195)))))))))), (ru_ne (by omega) (ru_ne (by omega) (ru_ne (by omega) (ru_ne (by omega) (ru_ne (by omega) (ru_ne (by omega) (ru_ne (by omega) (ru_ne (by omega) (ru_ne (by omega) (ru_ne (by omega) g196)))))))))), (ru_ne (by omega) (ru_ne (by omega) (ru_ne (by omega) (ru_ne (by omega) (ru_ne (by omega) (ru_ne (by omega) (ru_ne (by omega) (ru_ne (by omega) (ru_ne (by omega) (ru_ne (by omega) g197)))))))))), (ru_ne (by omega) (ru_ne (by omega) (ru_ne (by omega) (ru_ne (by omega) (ru_ne (by omega) (ru_ne (by omega) (ru_ne (by omega) (ru_ne (by omega) (ru_ne (by omega) (ru_ne (by omega) g198))))))))))⟩, ⟨(ru_ne (by omega) (ru_ne (by omega) (ru_ne (by omega) (ru_ne (by omega) (ru_ne (by omega) (ru_ne (by omega) (ru_ne (by omega) (ru_ne (by omega) (ru_ne (by omega) (ru_ne (by omega) g199)))))))))), (ru_ne (by omega) (ru_ne (by omega) (ru_ne (by omega) (ru_ne (by omega) (ru_ne (by omega) (ru_ne (by omega) (ru_ne (by omega) (ru_ne (by omega) (ru_ne (by omega) (ru_ne (by omega) g200)))))))))), (ru_ne (by omega) (ru_ne (by omega) (ru_ne (by omega) (ru_ne (by omega) (ru_ne (by omega) (ru_ne (by omega) (ru_ne (by omega) (ru_ne (by omega) (ru_ne (by omega) (ru_ne (by omega) g201)))))))))), (ru_ne (by omega) (ru_ne (by omega) (ru_ne (by omega) (ru_ne (by omega) (ru_ne (by omega) (ru_ne (by omega) (ru_ne (by omega) (ru_ne (by omega) (ru_ne (by omega) (ru_ne (by omega) g202)))))))))), (ru_ne (by omega) (ru_ne (by omega) (ru_ne (by omega) (ru_ne (by omega) (ru_ne (by omega) (ru_ne (by omega) (ru_ne (by omega) (ru_ne (by omega) (ru_ne (by omega) (ru_ne (by omega) g203)))))))))), (ru_ne (by omega) (ru_ne (by omega) (ru_ne (by omega) (ru_ne (by omega) (ru_ne (by omega) (ru_ne (by omega) (ru_ne (by omega) (ru_ne (by omega) (ru_ne (by omega) (ru_ne (by omega) g204)))))))))), (ru_ne (by omega) (ru_ne (by omega) (ru_ne (by omega) (ru_ne (by omega) (ru_ne (by omega) (ru_ne (by omega) (ru_ne (by omega) (ru_ne (by omega) (ru_ne (by omega) (ru_ne (by omega) g205)))))))))), (ru_ne (by omega) (ru_ne (by omega) (ru_ne (by omega) (ru_ne (by omega) (ru_ne (by omega) (ru_ne (by omega) (ru_ne (by omega) (ru_ne (by omega) (ru_ne (by omega) (ru_ne (by omega) g206)))))))))), (ru_ne (by omega) (ru_ne (by omega) (ru_ne (by omega) (ru_ne (by omega) (ru_ne (by omega) (ru_ne (by omega) (ru_ne (by omega) (ru_ne (by omega) (ru_ne (by omega) (ru_ne (by omega) g207)))))))))), (ru_ne (by omega) (ru_ne (by omega) (ru_ne (by omega) (ru_ne (by omega) (ru_ne (by omega) (ru_ne (by omega) (ru_ne (by omega) (ru_ne (by omega) (ru_ne (by omega) (ru_ne (by omega) g208)))))))))), (ru_ne (by omega) (ru_ne (by omega) (ru_ne (by omega) (ru_ne (by omega) (ru_ne (by omega) (ru_ne (by omega) (ru_ne (by omega) (ru_ne (by omega) (ru_ne (by omega) (ru_ne (by omega) g209)))))))))), (ru_ne (by omega) (ru_ne (by omega) (ru_ne (by omega) (ru_ne (by omega) (ru_ne (by omega) (ru_ne (by omega) (ru_ne (by omega) (ru_ne (by omega) (ru_ne (by omega) (ru_ne (by omega) g210))))))))))⟩, ⟨(ru_ne (by omega) (ru_ne (by omega) (ru_ne (by omega) (ru_ne (by omega) (ru_ne (by omega) (ru_ne (by omega) (ru_ne (by omega) (ru_ne (by omega) (ru_ne (by omega) (ru_ne (by omega) h151)))))))))), (ru_ne (by omega) (ru_ne (by omega) (ru_ne (by omega) (ru_ne (by omega) (ru_ne (by omega) (ru_ne (by omega) (ru_ne (by omega) (ru_ne (by omega) (ru_ne (by omega) (ru_ne (by omega) h152)))))))))), (ru_ne (by omega) (ru_ne (by omega) (ru_ne (by omega) (ru_ne (by omega) (ru_ne (by omega) (ru_ne (by omega) (ru_ne (by omega) (ru_ne (by omega) (ru_ne (by omega) (ru_ne (by omega) h153)))))))))), (ru_ne (by omega) (ru_ne (by omega) (ru_ne (by omega) (ru_ne (by omega) (ru_ne (by omega) (ru_ne (by omega) (ru_ne (by omega) (ru_ne (by omega) (ru_ne (by omega) (ru_ne (by omega) h154)))))))))), (ru_ne (by omega) (ru_ne (by omega) (ru_ne (by omega) (ru_ne (by omega) (ru_ne (by omega) (ru_ne (by omega) (ru_ne (by omega) (ru_ne (by omega) (ru_ne (by omega) (ru_ne (by omega) h155)))))))))), (ru_ne (by omega) (ru_ne (by omega) (ru_ne (by omega) (ru_ne (by omega) (ru_ne (by omega) (ru_ne (by omega) (ru_ne (by omega) (ru_ne (by omega) (ru_ne (by omega) (ru_ne (by omega) h156)))))))))), (ru_ne (by omega) (ru_ne (by omega) (ru_ne (by omega) (ru_ne (by omega) (ru_ne (by omega) (ru_ne (by omega) (ru_ne (by omega) (ru_ne (by omega) (ru_ne (by omega) (ru_ne (by omega) h157)))))))))), (ru_ne (by omega) (ru_ne (by omega) (ru_ne (by omega) (ru_ne (by omega) (ru_ne (by omega) (ru_ne (by omega) (ru_ne (by omega) (ru_ne (by omega) (ru_ne (by omega) (ru_ne (by omega) h158)))))))))), (ru_ne (by omega) (ru_ne (by omega) (ru_ne (by omega) (ru_ne (by omega) (ru_ne (by omega) (ru_ne (by omega) (ru_ne (by omega) (ru_ne (by omega) (ru_ne (by omega) (ru_ne (by omega) h159)))))))))), (ru_ne (by omega) (ru_ne (by omega) (ru_ne (by omega) (ru_ne (by omega) (ru_ne (by omega) (ru_ne (by omega) (ru_ne (by omega) (ru_ne (by omega) (ru_ne (by omega) (ru_ne (by omega) h160)))))))))), (ru_ne (by omega) (ru_ne (by omega) (ru_ne (by omega) (ru_ne (by omega) (ru_ne (by omega) (ru_ne (by omega) (ru_ne (by omega) (ru_ne (by omega) (ru_ne (by omega) (ru_ne (by omega) h161)))))))))), (ru_ne (by omega) (ru_ne (by omega) (ru_ne (by omega) (ru_ne (by omega) (ru_ne (by omega) (ru_ne (by omega) (ru_ne (by omega) (ru_ne (by omega) (ru_ne (by omega) (ru_ne (by omega) h162))))))))))⟩, (ru_ne (by omega) (ru_ne (by omega) (ru_ne (by omega) (ru_ne (by omega) (ru_ne (by omega) (ru_ne (by omega) (ru_ne (by omega) (ru_ne (by omega) ru_eq)))))))), (ru_ne (by omega) (ru_ne (by omega) (ru_ne (by omega) (ru_ne (by omega) (ru_ne (by omega) (ru_ne (by omega) ru_eq)))))), (ru_ne (by omega) (ru_ne (by omega) (ru_ne (by omega) (ru_ne (by omega) ru_eq)))), (ru_ne (by omega) (ru_ne (by omega) ru_eq))⟩, fun q h1 => (ru_ne (by omega) (ru_ne (by omega) (ru_ne (by omega) (ru_ne (by omega) (ru_ne (by omega) (ru_ne (by omega) (ru_ne (by omega) (ru_ne (by omega) (ru_ne (by omega) (ru_ne (by omega) (fr211 q h1)))))))))))⟩)
set_option maxRecDepth 20000 in
theorem k_Reader_init (l : Launch) (V : VX) (N : Nat) (σ : Mem) (a t c : Nat) (ha : a < N) (h0 : σ a = some (ob 5 [.null, .int 0, .null, .null, .int 0, .int 0, .int 0, .int 0, .int 0, .int 0, .int 0, .int 0, .int 0])) : Ct l V yX7_init cX7_init 3 none 1 1 4 N σ [.ref a, .ref t, .ref c] (fun r τ => r = none ∧ τ a = some (ob 5 [.ref t, .int 0, .ref c, .ref N, .int 0, .int 0, .int 0, .int 0, .int 0, .int 0, .int 0, .int 0, .int (-1)]) ∧ τ N = some (aI V 4 (fun _ => 0)) ∧ ∀ q : Nat, q ≠ a → q < N → τ q = σ q) := by
  refine Ct.of (by decide) (Nat.le_of_ble_eq_true rfl) [(0, .ref a), (1, .ref t), (2, .ref c)] rfl (fun X hX F hQ => ?_)
  refine m_aload_n F rfl e_X7_init_0 ?_
  refine m_objInit F e_X7_init_1 ml_X7_3 im_obj co_obj (Nat.le_of_ble_eq_true rfl) (Nat.le_of_ble_eq_true rfl) ?_
  refine m_aload_n F rfl e_X7_init_4 ?_
  refine m_iconst F (v := 4) (by decide) e_X7_init_5 ?_
  refine m_newI F (len := 4) e_X7_init_6 arr_int (by decide) (by decide) (by decide) (k' := 1) (z' := 4) (N' := N + 1) rfl rfl rfl (Nat.le_of_ble_eq_true rfl) (Nat.le_of_ble_eq_true rfl) ?_
  refine m_putF F e_X7_init_8 fp_X7_9 rfl rfl (ru_ne (by omega) h0) rfl rfl (Nat.le_of_ble_eq_true rfl) (fs' := [.null, .int 0, .null, .ref N, .int 0, .int 0, .int 0, .int 0, .int 0, .int 0, .int 0, .int 0, .int 0]) rfl rfl ?_
  refine m_aload_n F rfl e_X7_init_11 ?_
  refine m_iconst F (v := (-1)) (by decide) e_X7_init_12 ?_
  refine m_put F e_X7_init_13 fp_X7_15 ru_eq rfl rfl (Nat.le_of_ble_eq_true rfl) (fs' := [.null, .int 0, .null, .ref N, .int 0, .int 0, .int 0, .int 0, .int 0, .int 0, .int 0, .int 0, .int (-1)]) rfl (bx_uu _ _ _ _) ?_
  refine m_aload_n F rfl e_X7_init_16 ?_
  refine m_aload_n F rfl e_X7_init_17 ?_
  refine m_putF F e_X7_init_18 fp_X7_19 rfl rfl ru_eq rfl rfl (Nat.le_of_ble_eq_true rfl) (fs' := [.ref t, .int 0, .null, .ref N, .int 0, .int 0, .int 0, .int 0, .int 0, .int 0, .int 0, .int 0, .int (-1)]) rfl (bx_uu _ _ _ _) ?_
  refine m_aload_n F rfl e_X7_init_21 ?_
  refine m_aload_n F rfl e_X7_init_22 ?_
  refine m_put F e_X7_init_23 fp_X7_23 ru_eq rfl rfl (Nat.le_of_ble_eq_true rfl) (fs' := [.ref t, .int 0, .ref c, .ref N, .int 0, .int 0, .int 0, .int 0, .int 0, .int 0, .int 0, .int 0, .int (-1)]) rfl (bx_uu _ _ _ _) ?_
  exact m_vret F hQ e_X7_init_26 (⟨rfl, ru_eq, (ru_ne (by omega) ru_eq), fun q h1 h2 => (ru_ne (by omega) (ru_ne (by omega) rfl))⟩)
end
section
theorem e_X9_init_0 : DC cX9_init 0 1 1 (.aload_n 0) := ⟨by decide +kernel, rfl⟩
theorem e_X9_init_1 : DC cX9_init 1 3 4 (.invokespecial 1) := ⟨by decide +kernel, rfl⟩
theorem ml_X9_1 : Cond.methodLink RX9 1 objectInit ∈ tb := tb_in 34 (by decide +kernel) (by decide +kernel)
theorem e_X9_init_4 : DC cX9_init 4 1 5 (.aload_n 0) := ⟨by decide +kernel, rfl⟩
theorem e_X9_init_5 : DC cX9_init 5 3 8 (.sipush 700) := ⟨by decide +kernel, rfl⟩
theorem e_X9_init_8 : DC cX9_init 8 2 10 (.newarray .byte) := ⟨by decide +kernel, rfl⟩
theorem arr_byte : Cond.arrayClass .byte ∈ tb := tb_in 65 (by decide +kernel) (by decide +kernel)
theorem e_X9_init_10 : DC cX9_init 10 3 13 (.putfield 9) := ⟨by decide +kernel, rfl⟩
theorem uw_7 : ∀ w ∈ u_ws RX9 TX9 13, w ∈ tb := tb_all [343, 345, 347, 349, 351, 353, 355, 357, 359, 361, 363, 365, 367] (by decide +kernel) (by decide +kernel)
theorem fp_X9_9 : FP RX9 9 7 0 true (.array .byte) := ⟨RX9, TX9, 13, tyX9, rfl, by decide, uw_7, tb_in 330 (by decide +kernel) (by decide +kernel), rfl, rfl, by decide +kernel, tyX9_ok, nmX9⟩
theorem e_X9_init_13 : DC cX9_init 13 1 14 (.aload_n 0) := ⟨by decide +kernel, rfl⟩
theorem e_X9_init_14 : DC cX9_init 14 3 17 (.new 13) := ⟨by decide +kernel, rfl⟩
theorem fn_X9_13 : FN RX9 13 1 13 [.null, .null, .null, .null, .null, .null, .null, .null, .int 0, .int 0, .int 0, .int 0, .int 0] := ⟨RX2, TX2, tyX2, rfl, uw_1, tb_in 37 (by decide +kernel) (by decide +kernel), tb_in 38 (by decide +kernel) (by decide +kernel), tb_in 2 (by decide +kernel) (by decide +kernel), tyX2_ok, by decide +kernel⟩
theorem e_X9_init_17 : DC cX9_init 17 1 18 (.dup) := ⟨by decide +kernel, rfl⟩
theorem e_X9_init_18 : DC cX9_init 18 3 21 (.invokespecial 15) := ⟨by decide +kernel, rfl⟩
theorem cb_X2_init : CB yX2_init cX2_init 2 none 0 := ⟨tb_in 41 (by decide +kernel) (by decide +kernel), tb_in 2 (by decide +kernel) (by decide +kernel), by decide +kernel⟩
theorem ml_X9_15 : Cond.methodLink RX9 15 yX2_init ∈ tb := tb_in 39 (by decide +kernel) (by decide +kernel)
theorem im_X2_init : Cond.instanceMethod yX2_init ∈ tb := tb_in 40 (by decide +kernel) (by decide +kernel)
theorem e_X9_init_21 : DC cX9_init 21 3 24 (.putfield 16) := ⟨by decide +kernel, rfl⟩
theorem fp_X9_16 : FP RX9 16 7 2 false (.object "LeaseLedger$Book") := ⟨RX9, TX9, 13, tyX9, rfl, by decide, uw_7, tb_in 332 (by decide +kernel) (by decide +kernel), rfl, rfl, by decide +kernel, tyX9_ok, nmX9⟩
theorem e_X9_init_24 : DC cX9_init 24 1 25 (.aload_n 0) := ⟨by decide +kernel, rfl⟩
theorem e_X9_init_25 : DC cX9_init 25 3 28 (.new 13) := ⟨by decide +kernel, rfl⟩
theorem e_X9_init_28 : DC cX9_init 28 1 29 (.dup) := ⟨by decide +kernel, rfl⟩
theorem e_X9_init_29 : DC cX9_init 29 3 32 (.invokespecial 15) := ⟨by decide +kernel, rfl⟩
theorem e_X9_init_32 : DC cX9_init 32 3 35 (.putfield 20) := ⟨by decide +kernel, rfl⟩
theorem fp_X9_20 : FP RX9 20 7 3 false (.object "LeaseLedger$Book") := ⟨RX9, TX9, 13, tyX9, rfl, by decide, uw_7, tb_in 333 (by decide +kernel) (by decide +kernel), rfl, rfl, by decide +kernel, tyX9_ok, nmX9⟩
theorem e_X9_init_35 : DC cX9_init 35 1 36 (.aload_n 0) := ⟨by decide +kernel, rfl⟩
theorem e_X9_init_36 : DC cX9_init 36 3 39 (.new 23) := ⟨by decide +kernel, rfl⟩
theorem fn_X9_23 : FN RX9 23 5 13 [.null, .int 0, .null, .null, .int 0, .int 0, .int 0, .int 0, .int 0, .int 0, .int 0, .int 0, .int 0] := ⟨RX7, TX7, tyX7, rfl, uw_5, tb_in 278 (by decide +kernel) (by decide +kernel), tb_in 279 (by decide +kernel) (by decide +kernel), tb_in 9 (by decide +kernel) (by decide +kernel), tyX7_ok, by decide +kernel⟩
theorem e_X9_init_39 : DC cX9_init 39 1 40 (.dup) := ⟨by decide +kernel, rfl⟩
theorem e_X9_init_40 : DC cX9_init 40 1 41 (.aload_n 0) := ⟨by decide +kernel, rfl⟩
theorem e_X9_init_41 : DC cX9_init 41 3 44 (.getfield 9) := ⟨by decide +kernel, rfl⟩
theorem fl_X9_9 : FL RX9 9 7 0 := ⟨RX9, TX9, 13, rfl, by decide, uw_7, tb_in 330 (by decide +kernel) (by decide +kernel), rfl⟩
theorem e_X9_init_44 : DC cX9_init 44 1 45 (.aload_n 0) := ⟨by decide +kernel, rfl⟩
theorem e_X9_init_45 : DC cX9_init 45 3 48 (.getfield 20) := ⟨by decide +kernel, rfl⟩
theorem fl_X9_20 : FL RX9 20 7 3 := ⟨RX9, TX9, 13, rfl, by decide, uw_7, tb_in 333 (by decide +kernel) (by decide +kernel), rfl⟩
theorem e_X9_init_48 : DC cX9_init 48 3 51 (.invokespecial 25) := ⟨by decide +kernel, rfl⟩
theorem cb_X7_init : CB yX7_init cX7_init 3 none 2 := ⟨tb_in 282 (by decide +kernel) (by decide +kernel), tb_in 9 (by decide +kernel) (by decide +kernel), by decide +kernel⟩
theorem ml_X9_25 : Cond.methodLink RX9 25 yX7_init ∈ tb := tb_in 280 (by decide +kernel) (by decide +kernel)
theorem im_X7_init : Cond.instanceMethod yX7_init ∈ tb := tb_in 281 (by decide +kernel) (by decide +kernel)
theorem e_X9_init_51 : DC cX9_init 51 3 54 (.putfield 28) := ⟨by decide +kernel, rfl⟩
theorem fp_X9_28 : FP RX9 28 7 4 true (.object "LeaseLedger$Reader") := ⟨RX9, TX9, 13, tyX9, rfl, by decide, uw_7, tb_in 334 (by decide +kernel) (by decide +kernel), rfl, rfl, by decide +kernel, tyX9_ok, nmX9⟩
theorem e_X9_init_54 : DC cX9_init 54 1 55 (.aload_n 0) := ⟨by decide +kernel, rfl⟩
theorem e_X9_init_55 : DC cX9_init 55 3 58 (.new 13) := ⟨by decide +kernel, rfl⟩
theorem e_X9_init_58 : DC cX9_init 58 1 59 (.dup) := ⟨by decide +kernel, rfl⟩
theorem e_X9_init_59 : DC cX9_init 59 3 62 (.invokespecial 15) := ⟨by decide +kernel, rfl⟩
theorem e_X9_init_62 : DC cX9_init 62 3 65 (.putfield 32) := ⟨by decide +kernel, rfl⟩
theorem fp_X9_32 : FP RX9 32 7 5 true (.object "LeaseLedger$Book") := ⟨RX9, TX9, 13, tyX9, rfl, by decide, uw_7, tb_in 335 (by decide +kernel) (by decide +kernel), rfl, rfl, by decide +kernel, tyX9_ok, nmX9⟩
theorem e_X9_init_65 : DC cX9_init 65 1 66 (.aload_n 0) := ⟨by decide +kernel, rfl⟩
theorem e_X9_init_66 : DC cX9_init 66 2 68 (.bipush 20) := ⟨by decide +kernel, rfl⟩
theorem e_X9_init_68 : DC cX9_init 68 3 71 (.anewarray 13) := ⟨by decide +kernel, rfl⟩
theorem cl_X9_13 : Cond.classLink RX9 13 RX2 ∈ tb := tb_in 37 (by decide +kernel) (by decide +kernel)
theorem e_X9_init_71 : DC cX9_init 71 3 74 (.putfield 35) := ⟨by decide +kernel, rfl⟩
theorem fp_X9_35 : FP RX9 35 7 7 true (.array (.object "LeaseLedger$Book")) := ⟨RX9, TX9, 13, tyX9, rfl, by decide, uw_7, tb_in 337 (by decide +kernel) (by decide +kernel), rfl, rfl, by decide +kernel, tyX9_ok, nmX9⟩
theorem e_X9_init_74 : DC cX9_init 74 1 75 (.aload_n 0) := ⟨by decide +kernel, rfl⟩
theorem e_X9_init_75 : DC cX9_init 75 3 78 (.new 39) := ⟨by decide +kernel, rfl⟩
theorem fn_X9_39 : FN RX9 39 0 2 [.long 0, .long 0] := ⟨RX1, TX1, tyX1, rfl, uw_0, tb_in 328 (by decide +kernel) (by decide +kernel), tb_in 69 (by decide +kernel) (by decide +kernel), tb_in 4 (by decide +kernel) (by decide +kernel), tyX1_ok, by decide +kernel⟩
theorem e_X9_init_78 : DC cX9_init 78 1 79 (.dup) := ⟨by decide +kernel, rfl⟩
theorem e_X9_init_79 : DC cX9_init 79 3 82 (.invokespecial 41) := ⟨by decide +kernel, rfl⟩
theorem e_X9_init_82 : DC cX9_init 82 3 85 (.putfield 42) := ⟨by decide +kernel, rfl⟩
theorem fp_X9_42 : FP RX9 42 7 10 true (.object "LeaseLedger$Amount") := ⟨RX9, TX9, 13, tyX9, rfl, by decide, uw_7, tb_in 340 (by decide +kernel) (by decide +kernel), rfl, rfl, by decide +kernel, tyX9_ok, nmX9⟩
theorem e_X9_init_85 : DC cX9_init 85 1 86 (.aload_n 0) := ⟨by decide +kernel, rfl⟩
theorem e_X9_init_86 : DC cX9_init 86 3 89 (.new 39) := ⟨by decide +kernel, rfl⟩
theorem e_X9_init_89 : DC cX9_init 89 1 90 (.dup) := ⟨by decide +kernel, rfl⟩
theorem e_X9_init_90 : DC cX9_init 90 3 93 (.invokespecial 41) := ⟨by decide +kernel, rfl⟩
theorem e_X9_init_93 : DC cX9_init 93 3 96 (.putfield 46) := ⟨by decide +kernel, rfl⟩
theorem fp_X9_46 : FP RX9 46 7 11 true (.object "LeaseLedger$Amount") := ⟨RX9, TX9, 13, tyX9, rfl, by decide, uw_7, tb_in 341 (by decide +kernel) (by decide +kernel), rfl, rfl, by decide +kernel, tyX9_ok, nmX9⟩
theorem e_X9_init_96 : DC cX9_init 96 1 97 (.aload_n 0) := ⟨by decide +kernel, rfl⟩
theorem e_X9_init_97 : DC cX9_init 97 3 100 (.new 39) := ⟨by decide +kernel, rfl⟩
theorem e_X9_init_100 : DC cX9_init 100 1 101 (.dup) := ⟨by decide +kernel, rfl⟩
theorem e_X9_init_101 : DC cX9_init 101 3 104 (.invokespecial 41) := ⟨by decide +kernel, rfl⟩
theorem e_X9_init_104 : DC cX9_init 104 3 107 (.putfield 49) := ⟨by decide +kernel, rfl⟩
theorem fp_X9_49 : FP RX9 49 7 12 true (.object "LeaseLedger$Amount") := ⟨RX9, TX9, 13, tyX9, rfl, by decide, uw_7, tb_in 342 (by decide +kernel) (by decide +kernel), rfl, rfl, by decide +kernel, tyX9_ok, nmX9⟩
theorem e_X9_init_107 : DC cX9_init 107 1 108 (.iconst 0) := ⟨by decide +kernel, rfl⟩
theorem e_X9_init_108 : DC cX9_init 108 1 109 (.istore_n 1) := ⟨by decide +kernel, rfl⟩
theorem e_X9_init_109 : DC cX9_init 109 1 110 (.iload_n 1) := ⟨by decide +kernel, rfl⟩
theorem e_X9_init_110 : DC cX9_init 110 2 112 (.bipush 20) := ⟨by decide +kernel, rfl⟩
theorem e_X9_init_112 : DJ cX9_init 112 134 115 (.if_icmp .ge) := DJ.mk 22 (by decide +kernel) (by decide) rfl
theorem e_X9_init_115 : DC cX9_init 115 1 116 (.aload_n 0) := ⟨by decide +kernel, rfl⟩
theorem e_X9_init_116 : DC cX9_init 116 3 119 (.getfield 35) := ⟨by decide +kernel, rfl⟩
theorem fl_X9_35 : FL RX9 35 7 7 := ⟨RX9, TX9, 13, rfl, by decide, uw_7, tb_in 337 (by decide +kernel) (by decide +kernel), rfl⟩
theorem e_X9_init_119 : DC cX9_init 119 1 120 (.iload_n 1) := ⟨by decide +kernel, rfl⟩
theorem e_X9_init_120 : DC cX9_init 120 3 123 (.new 13) := ⟨by decide +kernel, rfl⟩
theorem e_X9_init_123 : DC cX9_init 123 1 124 (.dup) := ⟨by decide +kernel, rfl⟩
theorem e_X9_init_124 : DC cX9_init 124 3 127 (.invokespecial 15) := ⟨by decide +kernel, rfl⟩
theorem e_X9_init_127 : DC cX9_init 127 1 128 (.aastore) := ⟨by decide +kernel, rfl⟩
theorem e_X9_init_128 : DC cX9_init 128 3 131 (.iinc 1 1) := ⟨by decide +kernel, rfl⟩
theorem e_X9_init_131 : DJ cX9_init 131 109 134 .goto := DJ.mk (-22) (by decide +kernel) (by decide) rfl
theorem e_X9_init_134 : DC cX9_init 134 1 135 (.return_) := ⟨by decide +kernel, rfl⟩
theorem reR {V : VX} {X : MX} {nL N k z pc ti : Nat} {σ : Mem} {lv : List (Nat × Value)} {st : List Value} {a n : Nat} {f g : Nat → Option Nat} (hg : ∀ j, j < n → f j = g j) (h : Wm V X nL N (va_up σ a (some (aR ti V n g))) k z pc lv st) : Wm V X nL N (va_up σ a (some (aR ti V n f))) k z pc lv st := by
  intro H locs ls h1 h2 h3
  refine h H locs ls ⟨h1.1, h1.2.1, h1.2.2.1, fun b e hb => ?_⟩ h2 h3
  by_cases hba : b = a
  · subst hba
    rw [va_up_self] at hb
    cases hb
    have h4 := h1.2.2.2 b _ (va_up_self _ _ _)
    refine ⟨h4.1, ?_⟩
    have h5 : H[b]? = some (vp_cell _ _) := h4.2
    show H[b]? = some (vp_cell _ _)
    rw [h5, vp_cell_q, vp_cell_q, arrV_cong (fun j hj => by rw [hg j hj])]
  · rw [va_up_ne _ _ hba] at hb
    exact h1.2.2.2 b e (by rw [va_up_ne _ _ hba]; exact hb)
def pfB (b : Nat) : Nat → Option Nat := fun j => if j < 20 then some (b + 197 + 63 * j) else none
theorem pf_eq (b : Nat) : ∀ j, j < 20 → (va_up (va_up (va_up (va_up (va_up (va_up (va_up (va_up (va_up (va_up (va_up (va_up (va_up (va_up (va_up (va_up (va_up (va_up (va_up (va_up (fun _ => none) 0 (some (b + 197))) 1 (some (b + 260))) 2 (some (b + 323))) 3 (some (b + 386))) 4 (some (b + 449))) 5 (some (b + 512))) 6 (some (b + 575))) 7 (some (b + 638))) 8 (some (b + 701))) 9 (some (b + 764))) 10 (some (b + 827))) 11 (some (b + 890))) 12 (some (b + 953))) 13 (some (b + 1016))) 14 (some (b + 1079))) 15 (some (b + 1142))) 16 (some (b + 1205))) 17 (some (b + 1268))) 18 (some (b + 1331))) 19 (some (b + 1394))) j = pfB b j := by
  intro j hj
  have hj2 : j = 0 ∨ j = 1 ∨ j = 2 ∨ j = 3 ∨ j = 4 ∨ j = 5 ∨ j = 6 ∨ j = 7 ∨ j = 8 ∨ j = 9 ∨ j = 10 ∨ j = 11 ∨ j = 12 ∨ j = 13 ∨ j = 14 ∨ j = 15 ∨ j = 16 ∨ j = 17 ∨ j = 18 ∨ j = 19 := by omega
  rcases hj2 with rfl | rfl | rfl | rfl | rfl | rfl | rfl | rfl | rfl | rfl | rfl | rfl | rfl | rfl | rfl | rfl | rfl | rfl | rfl | rfl <;> rfl
/-- a new ledger at b -/
def LLz (V : VX) (τ : Mem) (b : Nat) : Prop := τ b = some (ob 7 [.ref (b + 1), .int 0, .ref (b + 2), .ref (b + 65), .ref (b + 128), .ref (b + 130), .int 0, .ref (b + 193), .int 0, .int 0, .ref (b + 194), .ref (b + 195), .ref (b + 196)]) ∧ τ (b + 1) = some (aB V 700 (fun _ => 0)) ∧ τ (b + 128) = some (ob 5 [.ref (b + 1), .int 0, .ref (b + 65), .ref (b + 129), .int 0, .int 0, .int 0, .int 0, .int 0, .int 0, .int 0, .int 0, .int (-1)]) ∧ τ (b + 129) = some (aI V 4 (fun _ => 0)) ∧ τ (b + 193) = some (aR 6 V 20 (pfB b)) ∧ τ (b + 194) = some (ob 0 [.long 0, .long 0]) ∧ τ (b + 195) = some (ob 0 [.long 0, .long 0]) ∧ τ (b + 196) = some (ob 0 [.long 0, .long 0]) ∧ BZ V τ (b + 2) ∧ BZ V τ (b + 65) ∧ BZ V τ (b + 130) ∧ ∀ j, j < 20 → BZ V τ (b + 197 + 63 * j)
set_option maxRecDepth 20000 in
theorem k_Ledger_init (l : Launch) (V : VX) (σ : Mem) (b : Nat) (h0 : σ b = some (ob 7 [.null, .int 0, .null, .null, .null, .null, .int 0, .null, .int 0, .int 0, .null, .null, .null])) : Ct l V yX9_init cX9_init 2 none 5 1456 42603 (b + 1) σ [.ref b] (fun r τ => r = none ∧ LLz V τ b ∧ ∀ q : Nat, q < b → τ q = σ q) := by
  refine Ct.of (by decide) (Nat.le_of_ble_eq_true rfl) [(0, .ref b)] rfl (fun X hX F hQ => ?_)
  refine m_aload_n F rfl e_X9_init_0 ?_
  refine m_objInit F e_X9_init_1 ml_X9_1 im_obj co_obj (Nat.le_of_ble_eq_true rfl) (Nat.le_of_ble_eq_true rfl) ?_
  refine m_aload_n F rfl e_X9_init_4 ?_
  refine m_sipush F (v := 700) (by decide) e_X9_init_5 ?_
  refine m_newB F (len := 700) e_X9_init_8 arr_byte (by decide) (by decide) (by decide) (k' := 1) (z' := 700) (N' := b + 2) rfl rfl rfl (Nat.le_of_ble_eq_true rfl) (Nat.le_of_ble_eq_true rfl) ?_
  refine m_putF F e_X9_init_10 fp_X9_9 rfl rfl (ru_ne (by omega) h0) rfl rfl (Nat.le_of_ble_eq_true rfl) (fs' := [.ref (b + 1), .int 0, .null, .null, .null, .null, .int 0, .null, .int 0, .int 0, .null, .null, .null]) rfl rfl ?_
  refine m_aload_n F rfl e_X9_init_13 ?_
  refine m_new F e_X9_init_14 fn_X9_13 (k' := 2) (z' := 713) (N' := b + 3) rfl rfl rfl (Nat.le_of_ble_eq_true rfl) (Nat.le_of_ble_eq_true rfl) ?_
  refine m_dup F rfl e_X9_init_17 ?_
  refine m_callI F e_X9_init_18 (k_Book_init (x_l X) V _ (b + 2) ru_eq) cb_X2_init ml_X9_15 im_X2_init rfl rfl (rest := [.ref (b + 2), .ref b]) rfl (Nat.le_of_ble_eq_true rfl) ⟨Nat.le_of_ble_eq_true rfl, Nat.le_of_ble_eq_true rfl⟩ ⟨Nat.le_of_ble_eq_true rfl, Nat.le_of_ble_eq_true rfl⟩ (k' := 64) (z' := 2520) (N' := b + 65) rfl rfl rfl (fun r τ212 hp => ?_)
  obtain ⟨rfl, bz213, hf214⟩ := hp
  have g215 : τ212 b = some (ob 7 [.ref (b + 1), .int 0, .null, .null, .null, .null, .int 0, .null, .int 0, .int 0, .null, .null, .null]) := (hf214 b (by omega)).trans (ru_ne (by omega) ru_eq)
  have g216 : τ212 (b + 1) = some (aB V 700 (fun _ => 0)) := (hf214 (b + 1) (by omega)).trans (ru_ne (by omega) (ru_ne (by omega) ru_eq))
  have fr217 : ∀ q : Nat, q < b → τ212 q = σ q := fun q h1 => (hf214 q (by omega)).trans (ru_ne (by omega) (ru_ne (by omega) (ru_ne (by omega) rfl)))
  refine m_put F e_X9_init_21 fp_X9_16 g215 rfl rfl (Nat.le_of_ble_eq_true rfl) (fs' := [.ref (b + 1), .int 0, .ref (b + 2), .null, .null, .null, .int 0, .null, .int 0, .int 0, .null, .null, .null]) rfl rfl ?_
  refine m_aload_n F rfl e_X9_init_24 ?_
  refine m_new F e_X9_init_25 fn_X9_13 (k' := 65) (z' := 2533) (N' := b + 66) rfl rfl rfl (Nat.le_of_ble_eq_true rfl) (Nat.le_of_ble_eq_true rfl) ?_
  refine m_dup F rfl e_X9_init_28 ?_
  refine m_callI F e_X9_init_29 (k_Book_init (x_l X) V _ (b + 65) ru_eq) cb_X2_init ml_X9_15 im_X2_init rfl rfl (rest := [.ref (b + 65), .ref b]) rfl (Nat.le_of_ble_eq_true rfl) ⟨Nat.le_of_ble_eq_true rfl, Nat.le_of_ble_eq_true rfl⟩ ⟨Nat.le_of_ble_eq_true rfl, Nat.le_of_ble_eq_true rfl⟩ (k' := 127) (z' := 4340) (N' := b + 128) rfl rfl rfl (fun r τ218 hp => ?_)
  obtain ⟨rfl, bz219, hf220⟩ := hp
  have g221 : τ218 b = some (ob 7 [.ref (b + 1), .int 0, .ref (b + 2), .null, .null, .null, .int 0, .null, .int 0, .int 0, .null, .null, .null]) := (hf220 b (by omega)).trans (ru_ne (by omega) ru_eq)
  have g222 : τ218 (b + 1) = some (aB V 700 (fun _ => 0)) := (hf220 (b + 1) (by omega)).trans (ru_ne (by omega) (ru_ne (by omega) g216))
  have bz223 : BZ V τ218 (b + 2) := bz213.keep (fun x g1 g2 => (hf220 x (by omega)).trans (ru_ne (by omega) (ru_ne (by omega) rfl)))
  have fr224 : ∀ q : Nat, q < b → τ218 q = σ q := fun q h1 => (hf220 q (by omega)).trans (ru_ne (by omega) (ru_ne (by omega) (fr217 q h1)))
  refine m_put F e_X9_init_32 fp_X9_20 g221 rfl rfl (Nat.le_of_ble_eq_true rfl) (fs' := [.ref (b + 1), .int 0, .ref (b + 2), .ref (b + 65), .null, .null, .int 0, .null, .int 0, .int 0, .null, .null, .null]) rfl rfl ?_
  refine m_aload_n F rfl e_X9_init_35 ?_
  refine m_new F e_X9_init_36 fn_X9_23 (k' := 128) (z' := 4353) (N' := b + 129) rfl rfl rfl (Nat.le_of_ble_eq_true rfl) (Nat.le_of_ble_eq_true rfl) ?_
  refine m_dup F rfl e_X9_init_39 ?_
  refine m_aload_n F rfl e_X9_init_40 ?_
  refine m_get F e_X9_init_41 fl_X9_9 (ru_ne (by omega) ru_eq) rfl ?_
  refine m_aload_n F rfl e_X9_init_44 ?_
  refine m_get F e_X9_init_45 fl_X9_20 (ru_ne (by omega) ru_eq) rfl ?_
  refine m_callI F e_X9_init_48 (k_Reader_init (x_l X) V (b + 129) _ (b + 128) (b + 1) (b + 65) (by omega) ru_eq) cb_X7_init ml_X9_25 im_X7_init rfl rfl (rest := [.ref (b + 128), .ref b]) rfl (Nat.le_of_ble_eq_true rfl) ⟨Nat.le_of_ble_eq_true rfl, Nat.le_of_ble_eq_true rfl⟩ ⟨Nat.le_of_ble_eq_true rfl, Nat.le_of_ble_eq_true rfl⟩ (k' := 129) (z' := 4357) (N' := b + 130) rfl rfl rfl (fun r τ225 hp => ?_)
  obtain ⟨rfl, h226, h227, hf228⟩ := hp
  have g229 : τ225 b = some (ob 7 [.ref (b + 1), .int 0, .ref (b + 2), .ref (b + 65), .null, .null, .int 0, .null, .int 0, .int 0, .null, .null, .null]) := (hf228 b (by omega) (by omega)).trans (ru_ne (by omega) ru_eq)
  have g230 : τ225 (b + 1) = some (aB V 700 (fun _ => 0)) := (hf228 (b + 1) (by omega) (by omega)).trans (ru_ne (by omega) (ru_ne (by omega) g222))
  have g231 : τ225 (b + 65) = some (ob 1 [.ref (b + 65 + 1), .ref (b + 65 + 2), .ref (b + 65 + 3), .ref (b + 65 + 4), .ref (b + 65 + 5), .ref (b + 65 + 8), .ref (b + 65 + 9), .ref (b + 65 + 10), .int 0, .int 0, .int 0, .int 0, .int 0]) := (hf228 (b + 65) (by omega) (by omega)).trans (ru_ne (by omega) (ru_ne (by omega) bz219.1.1))
  have bz232 : BZ V τ225 (b + 2) := bz223.keep (fun x g1 g2 => (hf228 x (by omega) (by omega)).trans (ru_ne (by omega) (ru_ne (by omega) rfl)))
  have bz233 : BZ V τ225 (b + 65) := bz219.keep (fun x g1 g2 => (hf228 x (by omega) (by omega)).trans (ru_ne (by omega) (ru_ne (by omega) rfl)))
  have fr234 : ∀ q : Nat, q < b → τ225 q = σ q := fun q h1 => (hf228 q (by omega) (by omega)).trans (ru_ne (by omega) (ru_ne (by omega) (fr224 q h1)))
  refine m_putF F e_X9_init_51 fp_X9_28 rfl rfl g229 rfl rfl (Nat.le_of_ble_eq_true rfl) (fs' := [.ref (b + 1), .int 0, .ref (b + 2), .ref (b + 65), .ref (b + 128), .null, .int 0, .null, .int 0, .int 0, .null, .null, .null]) rfl rfl ?_
  refine m_aload_n F rfl e_X9_init_54 ?_
  refine m_new F e_X9_init_55 fn_X9_13 (k' := 130) (z' := 4370) (N' := b + 131) rfl rfl rfl (Nat.le_of_ble_eq_true rfl) (Nat.le_of_ble_eq_true rfl) ?_
  refine m_dup F rfl e_X9_init_58 ?_
  refine m_callI F e_X9_init_59 (k_Book_init (x_l X) V _ (b + 130) ru_eq) cb_X2_init ml_X9_15 im_X2_init rfl rfl (rest := [.ref (b + 130), .ref b]) rfl (Nat.le_of_ble_eq_true rfl) ⟨Nat.le_of_ble_eq_true rfl, Nat.le_of_ble_eq_true rfl⟩ ⟨Nat.le_of_ble_eq_true rfl, Nat.le_of_ble_eq_true rfl⟩ (k' := 192) (z' := 6177) (N' := b + 193) rfl rfl rfl (fun r τ235 hp => ?_)
  obtain ⟨rfl, bz236, hf237⟩ := hp
  have g238 : τ235 b = some (ob 7 [.ref (b + 1), .int 0, .ref (b + 2), .ref (b + 65), .ref (b + 128), .null, .int 0, .null, .int 0, .int 0, .null, .null, .null]) := (hf237 b (by omega)).trans (ru_ne (by omega) ru_eq)
  have g239 : τ235 (b + 1) = some (aB V 700 (fun _ => 0)) := (hf237 (b + 1) (by omega)).trans (ru_ne (by omega) (ru_ne (by omega) g230))
  have g240 : τ235 (b + 128) = some (ob 5 [.ref (b + 1), .int 0, .ref (b + 65), .ref (b + 129), .int 0, .int 0, .int 0, .int 0, .int 0, .int 0, .int 0, .int 0, .int (-1)]) := (hf237 (b + 128) (by omega)).trans (ru_ne (by omega) (ru_ne (by omega) h226))
  have g241 : τ235 (b + 129) = some (aI V 4 (fun _ => 0)) := (hf237 (b + 129) (by omega)).trans (ru_ne (by omega) (ru_ne (by omega) h227))
  have bz242 : BZ V τ235 (b + 2) := bz232.keep (fun x g1 g2 => (hf237 x (by omega)).trans (ru_ne (by omega) (ru_ne (by omega) rfl)))
  have bz243 : BZ V τ235 (b + 65) := bz233.keep (fun x g1 g2 => (hf237 x (by omega)).trans (ru_ne (by omega) (ru_ne (by omega) rfl)))
  have fr244 : ∀ q : Nat, q < b → τ235 q = σ q := fun q h1 => (hf237 q (by omega)).trans (ru_ne (by omega) (ru_ne (by omega) (fr234 q h1)))
  refine m_putF F e_X9_init_62 fp_X9_32 rfl rfl g238 rfl rfl (Nat.le_of_ble_eq_true rfl) (fs' := [.ref (b + 1), .int 0, .ref (b + 2), .ref (b + 65), .ref (b + 128), .ref (b + 130), .int 0, .null, .int 0, .int 0, .null, .null, .null]) rfl rfl ?_
  refine m_aload_n F rfl e_X9_init_65 ?_
  refine m_bipush F (v := 20) (by decide) e_X9_init_66 ?_
  refine m_anew F (ti := 6) (len := 20) e_X9_init_68 cl_X9_13 F.ku.2.2.2.2 rfl (by decide) (by decide) (by decide) (k' := 193) (z' := 6197) (N' := b + 194) rfl rfl rfl (Nat.le_of_ble_eq_true rfl) (Nat.le_of_ble_eq_true rfl) ?_
  refine m_putF F e_X9_init_71 fp_X9_35 rfl rfl (ru_ne (by omega) ru_eq) rfl rfl (Nat.le_of_ble_eq_true rfl) (fs' := [.ref (b + 1), .int 0, .ref (b + 2), .ref (b + 65), .ref (b + 128), .ref (b + 130), .int 0, .ref (b + 193), .int 0, .int 0, .null, .null, .null]) rfl rfl ?_
  refine m_aload_n F rfl e_X9_init_74 ?_
  refine m_new F e_X9_init_75 fn_X9_39 (k' := 194) (z' := 6199) (N' := b + 195) rfl rfl rfl (Nat.le_of_ble_eq_true rfl) (Nat.le_of_ble_eq_true rfl) ?_
  refine m_dup F rfl e_X9_init_78 ?_
  refine m_callIN F e_X9_init_79 (k_Amount_init (x_l X) V _ _ (b + 194)) cb_X1_init (by simp [nestW, yX9_init]) im_X1_init rfl rfl (rest := [.ref (b + 194), .ref b]) rfl (Nat.le_of_ble_eq_true rfl) ⟨Nat.le_of_ble_eq_true rfl, Nat.le_of_ble_eq_true rfl⟩ ⟨Nat.le_of_ble_eq_true rfl, Nat.le_of_ble_eq_true rfl⟩ (k' := 194) (z' := 6199) (N' := b + 195) rfl rfl rfl (fun r τ hp => ?_)
  obtain ⟨rfl, rfl⟩ := hp
  refine m_putF F e_X9_init_82 fp_X9_42 rfl rfl (ru_ne (by omega) ru_eq) rfl rfl (Nat.le_of_ble_eq_true rfl) (fs' := [.ref (b + 1), .int 0, .ref (b + 2), .ref (b + 65), .ref (b + 128), .ref (b + 130), .int 0, .ref (b + 193), .int 0, .int 0, .ref (b + 194), .null, .null]) rfl rfl ?_
  refine m_aload_n F rfl e_X9_init_85 ?_
  refine m_new F e_X9_init_86 fn_X9_39 (k' := 195) (z' := 6201) (N' := b + 196) rfl rfl rfl (Nat.le_of_ble_eq_true rfl) (Nat.le_of_ble_eq_true rfl) ?_
  refine m_dup F rfl e_X9_init_89 ?_
  refine m_callIN F e_X9_init_90 (k_Amount_init (x_l X) V _ _ (b + 195)) cb_X1_init (by simp [nestW, yX9_init]) im_X1_init rfl rfl (rest := [.ref (b + 195), .ref b]) rfl (Nat.le_of_ble_eq_true rfl) ⟨Nat.le_of_ble_eq_true rfl, Nat.le_of_ble_eq_true rfl⟩ ⟨Nat.le_of_ble_eq_true rfl, Nat.le_of_ble_eq_true rfl⟩ (k' := 195) (z' := 6201) (N' := b + 196) rfl rfl rfl (fun r τ hp => ?_)
  obtain ⟨rfl, rfl⟩ := hp
  refine m_putF F e_X9_init_93 fp_X9_46 rfl rfl (ru_ne (by omega) ru_eq) rfl rfl (Nat.le_of_ble_eq_true rfl) (fs' := [.ref (b + 1), .int 0, .ref (b + 2), .ref (b + 65), .ref (b + 128), .ref (b + 130), .int 0, .ref (b + 193), .int 0, .int 0, .ref (b + 194), .ref (b + 195), .null]) rfl rfl ?_
  refine m_aload_n F rfl e_X9_init_96 ?_
  refine m_new F e_X9_init_97 fn_X9_39 (k' := 196) (z' := 6203) (N' := b + 197) rfl rfl rfl (Nat.le_of_ble_eq_true rfl) (Nat.le_of_ble_eq_true rfl) ?_
  refine m_dup F rfl e_X9_init_100 ?_
  refine m_callIN F e_X9_init_101 (k_Amount_init (x_l X) V _ _ (b + 196)) cb_X1_init (by simp [nestW, yX9_init]) im_X1_init rfl rfl (rest := [.ref (b + 196), .ref b]) rfl (Nat.le_of_ble_eq_true rfl) ⟨Nat.le_of_ble_eq_true rfl, Nat.le_of_ble_eq_true rfl⟩ ⟨Nat.le_of_ble_eq_true rfl, Nat.le_of_ble_eq_true rfl⟩ (k' := 196) (z' := 6203) (N' := b + 197) rfl rfl rfl (fun r τ hp => ?_)
  obtain ⟨rfl, rfl⟩ := hp
  refine m_putF F e_X9_init_104 fp_X9_49 rfl rfl (ru_ne (by omega) ru_eq) rfl rfl (Nat.le_of_ble_eq_true rfl) (fs' := [.ref (b + 1), .int 0, .ref (b + 2), .ref (b + 65), .ref (b + 128), .ref (b + 130), .int 0, .ref (b + 193), .int 0, .int 0, .ref (b + 194), .ref (b + 195), .ref (b + 196)]) rfl rfl ?_
  refine m_iconst F (v := 0) (by decide) e_X9_init_107 ?_
  refine m_istore_n F (lv' := [(1, .int 0), (0, .ref b)]) e_X9_init_108 (by decide) rfl ?_
  refine m_iload_n F rfl e_X9_init_109 ?_
  refine m_bipush F (v := 20) (by decide) e_X9_init_110 ?_
  refine m_icmp_ge F e_X9_init_112 (fun q => absurd q (by decide)) (fun _ => ?_)
  refine m_aload_n F rfl e_X9_init_115 ?_
  refine m_get F e_X9_init_116 fl_X9_35 ru_eq rfl ?_
  refine m_iload_n F rfl e_X9_init_119 ?_
  refine m_new F e_X9_init_120 fn_X9_13 (k' := 197) (z' := 6216) (N' := b + 198) rfl rfl rfl (Nat.le_of_ble_eq_true rfl) (Nat.le_of_ble_eq_true rfl) ?_
  refine m_dup F rfl e_X9_init_123 ?_
  refine m_callI F e_X9_init_124 (k_Book_init (x_l X) V _ (b + 197) ru_eq) cb_X2_init ml_X9_15 im_X2_init rfl rfl (rest := [.ref (b + 197), .int 0, .ref (b + 193)]) rfl (Nat.le_of_ble_eq_true rfl) ⟨Nat.le_of_ble_eq_true rfl, Nat.le_of_ble_eq_true rfl⟩ ⟨Nat.le_of_ble_eq_true rfl, Nat.le_of_ble_eq_true rfl⟩ (k' := 259) (z' := 8023) (N' := b + 260) rfl rfl rfl (fun r τ245 hp => ?_)
  obtain ⟨rfl, bz246, hf247⟩ := hp
  have g248 : τ245 b = some (ob 7 [.ref (b + 1), .int 0, .ref (b + 2), .ref (b + 65), .ref (b + 128), .ref (b + 130), .int 0, .ref (b + 193), .int 0, .int 0, .ref (b + 194), .ref (b + 195), .ref (b + 196)]) := (hf247 b (by omega)).trans (ru_ne (by omega) ru_eq)
  have g249 : τ245 (b + 1) = some (aB V 700 (fun _ => 0)) := (hf247 (b + 1) (by omega)).trans (ru_ne (by omega) (ru_ne (by omega) (ru_ne (by omega) (ru_ne (by omega) (ru_ne (by omega) (ru_ne (by omega) (ru_ne (by omega) (ru_ne (by omega) (ru_ne (by omega) (ru_ne (by omega) g239))))))))))
  have g250 : τ245 (b + 128) = some (ob 5 [.ref (b + 1), .int 0, .ref (b + 65), .ref (b + 129), .int 0, .int 0, .int 0, .int 0, .int 0, .int 0, .int 0, .int 0, .int (-1)]) := (hf247 (b + 128) (by omega)).trans (ru_ne (by omega) (ru_ne (by omega) (ru_ne (by omega) (ru_ne (by omega) (ru_ne (by omega) (ru_ne (by omega) (ru_ne (by omega) (ru_ne (by omega) (ru_ne (by omega) (ru_ne (by omega) g240))))))))))
  have g251 : τ245 (b + 129) = some (aI V 4 (fun _ => 0)) := (hf247 (b + 129) (by omega)).trans (ru_ne (by omega) (ru_ne (by omega) (ru_ne (by omega) (ru_ne (by omega) (ru_ne (by omega) (ru_ne (by omega) (ru_ne (by omega) (ru_ne (by omega) (ru_ne (by omega) (ru_ne (by omega) g241))))))))))
  have g252 : τ245 (b + 193) = some (aR 6 V 20 (fun _ => none)) := (hf247 (b + 193) (by omega)).trans (ru_ne (by omega) (ru_ne (by omega) (ru_ne (by omega) (ru_ne (by omega) (ru_ne (by omega) (ru_ne (by omega) (ru_ne (by omega) (ru_ne (by omega) ru_eq))))))))
  have g253 : τ245 (b + 194) = some (ob 0 [.long 0, .long 0]) := (hf247 (b + 194) (by omega)).trans (ru_ne (by omega) (ru_ne (by omega) (ru_ne (by omega) (ru_ne (by omega) (ru_ne (by omega) (ru_ne (by omega) ru_eq))))))
  have g254 : τ245 (b + 195) = some (ob 0 [.long 0, .long 0]) := (hf247 (b + 195) (by omega)).trans (ru_ne (by omega) (ru_ne (by omega) (ru_ne (by omega) (ru_ne (by omega) ru_eq))))
  have g255 : τ245 (b + 196) = some (ob 0 [.long 0, .long 0]) := (hf247 (b + 196) (by omega)).trans (ru_ne (by omega) (ru_ne (by omega) ru_eq))
  have bz256 : BZ V τ245 (b + 2) := bz242.keep (fun x g1 g2 => (hf247 x (by omega)).trans (ru_ne (by omega) (ru_ne (by omega) (ru_ne (by omega) (ru_ne (by omega) (ru_ne (by omega) (ru_ne (by omega) (ru_ne (by omega) (ru_ne (by omega) (ru_ne (by omega) (ru_ne (by omega) rfl)))))))))))
  have bz257 : BZ V τ245 (b + 65) := bz243.keep (fun x g1 g2 => (hf247 x (by omega)).trans (ru_ne (by omega) (ru_ne (by omega) (ru_ne (by omega) (ru_ne (by omega) (ru_ne (by omega) (ru_ne (by omega) (ru_ne (by omega) (ru_ne (by omega) (ru_ne (by omega) (ru_ne (by omega) rfl)))))))))))
  have bz258 : BZ V τ245 (b + 130) := bz236.keep (fun x g1 g2 => (hf247 x (by omega)).trans (ru_ne (by omega) (ru_ne (by omega) (ru_ne (by omega) (ru_ne (by omega) (ru_ne (by omega) (ru_ne (by omega) (ru_ne (by omega) (ru_ne (by omega) (ru_ne (by omega) (ru_ne (by omega) rfl)))))))))))
  have fr259 : ∀ q : Nat, q < b → τ245 q = σ q := fun q h1 => (hf247 q (by omega)).trans (ru_ne (by omega) (ru_ne (by omega) (ru_ne (by omega) (ru_ne (by omega) (ru_ne (by omega) (ru_ne (by omega) (ru_ne (by omega) (ru_ne (by omega) (ru_ne (by omega) (ru_ne (by omega) (fr244 q h1)))))))))))
  have pa260 : ∀ j, j < 1 → BZ V τ245 (b + 197 + 63 * j) := fun j hj => (show 0 = j by omega) ▸ bz246
  refine m_aast F (j := 0) e_X9_init_127 g252 rfl bz246.1.1 rfl (by decide) (by unfold vp_in; decide) rfl rfl ?_
  refine m_iinc F (v := 1) (lv' := [(1, .int 1), (0, .ref b)]) e_X9_init_128 rfl (by decide) (by decide) rfl ?_
  refine m_goto F e_X9_init_131 ?_
  refine m_iload_n F rfl e_X9_init_109 ?_
  refine m_bipush F (v := 20) (by decide) e_X9_init_110 ?_
  refine m_icmp_ge F e_X9_init_112 (fun q => absurd q (by decide)) (fun _ => ?_)
  refine m_aload_n F rfl e_X9_init_115 ?_
  refine m_get F e_X9_init_116 fl_X9_35 (ru_ne (by omega) g248) rfl ?_
  refine m_iload_n F rfl e_X9_init_119 ?_
  refine m_new F e_X9_init_120 fn_X9_13 (k' := 260) (z' := 8036) (N' := b + 261) rfl rfl rfl (Nat.le_of_ble_eq_true rfl) (Nat.le_of_ble_eq_true rfl) ?_
  refine m_dup F rfl e_X9_init_123 ?_
  refine m_callI F e_X9_init_124 (k_Book_init (x_l X) V _ (b + 260) ru_eq) cb_X2_init ml_X9_15 im_X2_init rfl rfl (rest := [.ref (b + 260), .int 1, .ref (b + 193)]) rfl (Nat.le_of_ble_eq_true rfl) ⟨Nat.le_of_ble_eq_true rfl, Nat.le_of_ble_eq_true rfl⟩ ⟨Nat.le_of_ble_eq_true rfl, Nat.le_of_ble_eq_true rfl⟩ (k' := 322) (z' := 9843) (N' := b + 323) rfl rfl rfl (fun r τ261 hp => ?_)
  obtain ⟨rfl, bz262, hf263⟩ := hp
  have g264 : τ261 b = some (ob 7 [.ref (b + 1), .int 0, .ref (b + 2), .ref (b + 65), .ref (b + 128), .ref (b + 130), .int 0, .ref (b + 193), .int 0, .int 0, .ref (b + 194), .ref (b + 195), .ref (b + 196)]) := (hf263 b (by omega)).trans (ru_ne (by omega) (ru_ne (by omega) g248))
  have g265 : τ261 (b + 1) = some (aB V 700 (fun _ => 0)) := (hf263 (b + 1) (by omega)).trans (ru_ne (by omega) (ru_ne (by omega) g249))
  have g266 : τ261 (b + 128) = some (ob 5 [.ref (b + 1), .int 0, .ref (b + 65), .ref (b + 129), .int 0, .int 0, .int 0, .int 0, .int 0, .int 0, .int 0, .int 0, .int (-1)]) := (hf263 (b + 128) (by omega)).trans (ru_ne (by omega) (ru_ne (by omega) g250))
  have g267 : τ261 (b + 129) = some (aI V 4 (fun _ => 0)) := (hf263 (b + 129) (by omega)).trans (ru_ne (by omega) (ru_ne (by omega) g251))
  have g268 : τ261 (b + 193) = some (aR 6 V 20 (va_up (fun _ => none) 0 (some (b + 197)))) := (hf263 (b + 193) (by omega)).trans (ru_ne (by omega) ru_eq)
  have g269 : τ261 (b + 194) = some (ob 0 [.long 0, .long 0]) := (hf263 (b + 194) (by omega)).trans (ru_ne (by omega) (ru_ne (by omega) g253))
  have g270 : τ261 (b + 195) = some (ob 0 [.long 0, .long 0]) := (hf263 (b + 195) (by omega)).trans (ru_ne (by omega) (ru_ne (by omega) g254))
  have g271 : τ261 (b + 196) = some (ob 0 [.long 0, .long 0]) := (hf263 (b + 196) (by omega)).trans (ru_ne (by omega) (ru_ne (by omega) g255))
  have bz272 : BZ V τ261 (b + 2) := bz256.keep (fun x g1 g2 => (hf263 x (by omega)).trans (ru_ne (by omega) (ru_ne (by omega) rfl)))
  have bz273 : BZ V τ261 (b + 65) := bz257.keep (fun x g1 g2 => (hf263 x (by omega)).trans (ru_ne (by omega) (ru_ne (by omega) rfl)))
  have bz274 : BZ V τ261 (b + 130) := bz258.keep (fun x g1 g2 => (hf263 x (by omega)).trans (ru_ne (by omega) (ru_ne (by omega) rfl)))
  have pa275 : ∀ j, j < 1 → BZ V τ261 (b + 197 + 63 * j) := fun j hj => (pa260 j hj).keep (fun x g1 g2 => (hf263 x (by omega)).trans (ru_ne (by omega) (ru_ne (by omega) rfl)))
  have fr276 : ∀ q : Nat, q < b → τ261 q = σ q := fun q h1 => (hf263 q (by omega)).trans (ru_ne (by omega) (ru_ne (by omega) (fr259 q h1)))
  have pa277 : ∀ j, j < 2 → BZ V τ261 (b + 197 + 63 * j) := fun j hj => (Nat.lt_or_ge j 1).elim (fun h => pa275 j h) (fun h => (show 1 = j by omega) ▸ bz262)
  refine m_aast F (j := 1) e_X9_init_127 g268 rfl bz262.1.1 rfl (by decide) (by unfold vp_in; decide) rfl rfl ?_
  refine m_iinc F (v := 2) (lv' := [(1, .int 2), (0, .ref b)]) e_X9_init_128 rfl (by decide) (by decide) rfl ?_
  refine m_goto F e_X9_init_131 ?_
  refine m_iload_n F rfl e_X9_init_109 ?_
  refine m_bipush F (v := 20) (by decide) e_X9_init_110 ?_
  refine m_icmp_ge F e_X9_init_112 (fun q => absurd q (by decide)) (fun _ => ?_)
  refine m_aload_n F rfl e_X9_init_115 ?_
  refine m_get F e_X9_init_116 fl_X9_35 (ru_ne (by omega) g264) rfl ?_
  refine m_iload_n F rfl e_X9_init_119 ?_
  refine m_new F e_X9_init_120 fn_X9_13 (k' := 323) (z' := 9856) (N' := b + 324) rfl rfl rfl (Nat.le_of_ble_eq_true rfl) (Nat.le_of_ble_eq_true rfl) ?_
  refine m_dup F rfl e_X9_init_123 ?_
  refine m_callI F e_X9_init_124 (k_Book_init (x_l X) V _ (b + 323) ru_eq) cb_X2_init ml_X9_15 im_X2_init rfl rfl (rest := [.ref (b + 323), .int 2, .ref (b + 193)]) rfl (Nat.le_of_ble_eq_true rfl) ⟨Nat.le_of_ble_eq_true rfl, Nat.le_of_ble_eq_true rfl⟩ ⟨Nat.le_of_ble_eq_true rfl, Nat.le_of_ble_eq_true rfl⟩ (k' := 385) (z' := 11663) (N' := b + 386) rfl rfl rfl (fun r τ278 hp => ?_)
  obtain ⟨rfl, bz279, hf280⟩ := hp
  have g281 : τ278 b = some (ob 7 [.ref (b + 1), .int 0, .ref (b + 2), .ref (b + 65), .ref (b + 128), .ref (b + 130), .int 0, .ref (b + 193), .int 0, .int 0, .ref (b + 194), .ref (b + 195), .ref (b + 196)]) := (hf280 b (by omega)).trans (ru_ne (by omega) (ru_ne (by omega) g264))
  have g282 : τ278 (b + 1) = some (aB V 700 (fun _ => 0)) := (hf280 (b + 1) (by omega)).trans (ru_ne (by omega) (ru_ne (by omega) g265))
  have g283 : τ278 (b + 128) = some (ob 5 [.ref (b + 1), .int 0, .ref (b + 65), .ref (b + 129), .int 0, .int 0, .int 0, .int 0, .int 0, .int 0, .int 0, .int 0, .int (-1)]) := (hf280 (b + 128) (by omega)).trans (ru_ne (by omega) (ru_ne (by omega) g266))
  have g284 : τ278 (b + 129) = some (aI V 4 (fun _ => 0)) := (hf280 (b + 129) (by omega)).trans (ru_ne (by omega) (ru_ne (by omega) g267))
  have g285 : τ278 (b + 193) = some (aR 6 V 20 (va_up (va_up (fun _ => none) 0 (some (b + 197))) 1 (some (b + 260)))) := (hf280 (b + 193) (by omega)).trans (ru_ne (by omega) ru_eq)
  have g286 : τ278 (b + 194) = some (ob 0 [.long 0, .long 0]) := (hf280 (b + 194) (by omega)).trans (ru_ne (by omega) (ru_ne (by omega) g269))
  have g287 : τ278 (b + 195) = some (ob 0 [.long 0, .long 0]) := (hf280 (b + 195) (by omega)).trans (ru_ne (by omega) (ru_ne (by omega) g270))
  have g288 : τ278 (b + 196) = some (ob 0 [.long 0, .long 0]) := (hf280 (b + 196) (by omega)).trans (ru_ne (by omega) (ru_ne (by omega) g271))
  have bz289 : BZ V τ278 (b + 2) := bz272.keep (fun x g1 g2 => (hf280 x (by omega)).trans (ru_ne (by omega) (ru_ne (by omega) rfl)))
  have bz290 : BZ V τ278 (b + 65) := bz273.keep (fun x g1 g2 => (hf280 x (by omega)).trans (ru_ne (by omega) (ru_ne (by omega) rfl)))
  have bz291 : BZ V τ278 (b + 130) := bz274.keep (fun x g1 g2 => (hf280 x (by omega)).trans (ru_ne (by omega) (ru_ne (by omega) rfl)))
  have pa292 : ∀ j, j < 2 → BZ V τ278 (b + 197 + 63 * j) := fun j hj => (pa277 j hj).keep (fun x g1 g2 => (hf280 x (by omega)).trans (ru_ne (by omega) (ru_ne (by omega) rfl)))
  have fr293 : ∀ q : Nat, q < b → τ278 q = σ q := fun q h1 => (hf280 q (by omega)).trans (ru_ne (by omega) (ru_ne (by omega) (fr276 q h1)))
  have pa294 : ∀ j, j < 3 → BZ V τ278 (b + 197 + 63 * j) := fun j hj => (Nat.lt_or_ge j 2).elim (fun h => pa292 j h) (fun h => (show 2 = j by omega) ▸ bz279)
  refine m_aast F (j := 2) e_X9_init_127 g285 rfl bz279.1.1 rfl (by decide) (by unfold vp_in; decide) rfl rfl ?_
  refine m_iinc F (v := 3) (lv' := [(1, .int 3), (0, .ref b)]) e_X9_init_128 rfl (by decide) (by decide) rfl ?_
  refine m_goto F e_X9_init_131 ?_
  refine m_iload_n F rfl e_X9_init_109 ?_
  refine m_bipush F (v := 20) (by decide) e_X9_init_110 ?_
  refine m_icmp_ge F e_X9_init_112 (fun q => absurd q (by decide)) (fun _ => ?_)
  refine m_aload_n F rfl e_X9_init_115 ?_
  refine m_get F e_X9_init_116 fl_X9_35 (ru_ne (by omega) g281) rfl ?_
  refine m_iload_n F rfl e_X9_init_119 ?_
  refine m_new F e_X9_init_120 fn_X9_13 (k' := 386) (z' := 11676) (N' := b + 387) rfl rfl rfl (Nat.le_of_ble_eq_true rfl) (Nat.le_of_ble_eq_true rfl) ?_
  refine m_dup F rfl e_X9_init_123 ?_
  refine m_callI F e_X9_init_124 (k_Book_init (x_l X) V _ (b + 386) ru_eq) cb_X2_init ml_X9_15 im_X2_init rfl rfl (rest := [.ref (b + 386), .int 3, .ref (b + 193)]) rfl (Nat.le_of_ble_eq_true rfl) ⟨Nat.le_of_ble_eq_true rfl, Nat.le_of_ble_eq_true rfl⟩ ⟨Nat.le_of_ble_eq_true rfl, Nat.le_of_ble_eq_true rfl⟩ (k' := 448) (z' := 13483) (N' := b + 449) rfl rfl rfl (fun r τ295 hp => ?_)
  obtain ⟨rfl, bz296, hf297⟩ := hp
  have g298 : τ295 b = some (ob 7 [.ref (b + 1), .int 0, .ref (b + 2), .ref (b + 65), .ref (b + 128), .ref (b + 130), .int 0, .ref (b + 193), .int 0, .int 0, .ref (b + 194), .ref (b + 195), .ref (b + 196)]) := (hf297 b (by omega)).trans (ru_ne (by omega) (ru_ne (by omega) g281))
  have g299 : τ295 (b + 1) = some (aB V 700 (fun _ => 0)) := (hf297 (b + 1) (by omega)).trans (ru_ne (by omega) (ru_ne (by omega) g282))
  have g300 : τ295 (b + 128) = some (ob 5 [.ref (b + 1), .int 0, .ref (b + 65), .ref (b + 129), .int 0, .int 0, .int 0, .int 0, .int 0, .int 0, .int 0, .int 0, .int (-1)]) := (hf297 (b + 128) (by omega)).trans (ru_ne (by omega) (ru_ne (by omega) g283))
  have g301 : τ295 (b + 129) = some (aI V 4 (fun _ => 0)) := (hf297 (b + 129) (by omega)).trans (ru_ne (by omega) (ru_ne (by omega) g284))
  have g302 : τ295 (b + 193) = some (aR 6 V 20 (va_up (va_up (va_up (fun _ => none) 0 (some (b + 197))) 1 (some (b + 260))) 2 (some (b + 323)))) := (hf297 (b + 193) (by omega)).trans (ru_ne (by omega) ru_eq)
  have g303 : τ295 (b + 194) = some (ob 0 [.long 0, .long 0]) := (hf297 (b + 194) (by omega)).trans (ru_ne (by omega) (ru_ne (by omega) g286))
  have g304 : τ295 (b + 195) = some (ob 0 [.long 0, .long 0]) := (hf297 (b + 195) (by omega)).trans (ru_ne (by omega) (ru_ne (by omega) g287))
  have g305 : τ295 (b + 196) = some (ob 0 [.long 0, .long 0]) := (hf297 (b + 196) (by omega)).trans (ru_ne (by omega) (ru_ne (by omega) g288))
  have bz306 : BZ V τ295 (b + 2) := bz289.keep (fun x g1 g2 => (hf297 x (by omega)).trans (ru_ne (by omega) (ru_ne (by omega) rfl)))
  have bz307 : BZ V τ295 (b + 65) := bz290.keep (fun x g1 g2 => (hf297 x (by omega)).trans (ru_ne (by omega) (ru_ne (by omega) rfl)))
  have bz308 : BZ V τ295 (b + 130) := bz291.keep (fun x g1 g2 => (hf297 x (by omega)).trans (ru_ne (by omega) (ru_ne (by omega) rfl)))
  have pa309 : ∀ j, j < 3 → BZ V τ295 (b + 197 + 63 * j) := fun j hj => (pa294 j hj).keep (fun x g1 g2 => (hf297 x (by omega)).trans (ru_ne (by omega) (ru_ne (by omega) rfl)))
  have fr310 : ∀ q : Nat, q < b → τ295 q = σ q := fun q h1 => (hf297 q (by omega)).trans (ru_ne (by omega) (ru_ne (by omega) (fr293 q h1)))
  have pa311 : ∀ j, j < 4 → BZ V τ295 (b + 197 + 63 * j) := fun j hj => (Nat.lt_or_ge j 3).elim (fun h => pa309 j h) (fun h => (show 3 = j by omega) ▸ bz296)
  refine m_aast F (j := 3) e_X9_init_127 g302 rfl bz296.1.1 rfl (by decide) (by unfold vp_in; decide) rfl rfl ?_
  refine m_iinc F (v := 4) (lv' := [(1, .int 4), (0, .ref b)]) e_X9_init_128 rfl (by decide) (by decide) rfl ?_
  refine m_goto F e_X9_init_131 ?_
  refine m_iload_n F rfl e_X9_init_109 ?_
  refine m_bipush F (v := 20) (by decide) e_X9_init_110 ?_
  refine m_icmp_ge F e_X9_init_112 (fun q => absurd q (by decide)) (fun _ => ?_)
  refine m_aload_n F rfl e_X9_init_115 ?_
  refine m_get F e_X9_init_116 fl_X9_35 (ru_ne (by omega) g298) rfl ?_
  refine m_iload_n F rfl e_X9_init_119 ?_
  refine m_new F e_X9_init_120 fn_X9_13 (k' := 449) (z' := 13496) (N' := b + 450) rfl rfl rfl (Nat.le_of_ble_eq_true rfl) (Nat.le_of_ble_eq_true rfl) ?_
  refine m_dup F rfl e_X9_init_123 ?_
  refine m_callI F e_X9_init_124 (k_Book_init (x_l X) V _ (b + 449) ru_eq) cb_X2_init ml_X9_15 im_X2_init rfl rfl (rest := [.ref (b + 449), .int 4, .ref (b + 193)]) rfl (Nat.le_of_ble_eq_true rfl) ⟨Nat.le_of_ble_eq_true rfl, Nat.le_of_ble_eq_true rfl⟩ ⟨Nat.le_of_ble_eq_true rfl, Nat.le_of_ble_eq_true rfl⟩ (k' := 511) (z' := 15303) (N' := b + 512) rfl rfl rfl (fun r τ312 hp => ?_)
  obtain ⟨rfl, bz313, hf314⟩ := hp
  have g315 : τ312 b = some (ob 7 [.ref (b + 1), .int 0, .ref (b + 2), .ref (b + 65), .ref (b + 128), .ref (b + 130), .int 0, .ref (b + 193), .int 0, .int 0, .ref (b + 194), .ref (b + 195), .ref (b + 196)]) := (hf314 b (by omega)).trans (ru_ne (by omega) (ru_ne (by omega) g298))
  have g316 : τ312 (b + 1) = some (aB V 700 (fun _ => 0)) := (hf314 (b + 1) (by omega)).trans (ru_ne (by omega) (ru_ne (by omega) g299))
  have g317 : τ312 (b + 128) = some (ob 5 [.ref (b + 1), .int 0, .ref (b + 65), .ref (b + 129), .int 0, .int 0, .int 0, .int 0, .int 0, .int 0, .int 0, .int 0, .int (-1)]) := (hf314 (b + 128) (by omega)).trans (ru_ne (by omega) (ru_ne (by omega) g300))
  have g318 : τ312 (b + 129) = some (aI V 4 (fun _ => 0)) := (hf314 (b + 129) (by omega)).trans (ru_ne (by omega) (ru_ne (by omega) g301))
  have g319 : τ312 (b + 193) = some (aR 6 V 20 (va_up (va_up (va_up (va_up (fun _ => none) 0 (some (b + 197))) 1 (some (b + 260))) 2 (some (b + 323))) 3 (some (b + 386)))) := (hf314 (b + 193) (by omega)).trans (ru_ne (by omega) ru_eq)
  have g320 : τ312 (b + 194) = some (ob 0 [.long 0, .long 0]) := (hf314 (b + 194) (by omega)).trans (ru_ne (by omega) (ru_ne (by omega) g303))
  have g321 : τ312 (b + 195) = some (ob 0 [.long 0, .long 0]) := (hf314 (b + 195) (by omega)).trans (ru_ne (by omega) (ru_ne (by omega) g304))
  have g322 : τ312 (b + 196) = some (ob 0 [.long 0, .long 0]) := (hf314 (b + 196) (by omega)).trans (ru_ne (by omega) (ru_ne (by omega) g305))
  have bz323 : BZ V τ312 (b + 2) := bz306.keep (fun x g1 g2 => (hf314 x (by omega)).trans (ru_ne (by omega) (ru_ne (by omega) rfl)))
  have bz324 : BZ V τ312 (b + 65) := bz307.keep (fun x g1 g2 => (hf314 x (by omega)).trans (ru_ne (by omega) (ru_ne (by omega) rfl)))
  have bz325 : BZ V τ312 (b + 130) := bz308.keep (fun x g1 g2 => (hf314 x (by omega)).trans (ru_ne (by omega) (ru_ne (by omega) rfl)))
  have pa326 : ∀ j, j < 4 → BZ V τ312 (b + 197 + 63 * j) := fun j hj => (pa311 j hj).keep (fun x g1 g2 => (hf314 x (by omega)).trans (ru_ne (by omega) (ru_ne (by omega) rfl)))
  have fr327 : ∀ q : Nat, q < b → τ312 q = σ q := fun q h1 => (hf314 q (by omega)).trans (ru_ne (by omega) (ru_ne (by omega) (fr310 q h1)))
  have pa328 : ∀ j, j < 5 → BZ V τ312 (b + 197 + 63 * j) := fun j hj => (Nat.lt_or_ge j 4).elim (fun h => pa326 j h) (fun h => (show 4 = j by omega) ▸ bz313)
  refine m_aast F (j := 4) e_X9_init_127 g319 rfl bz313.1.1 rfl (by decide) (by unfold vp_in; decide) rfl rfl ?_
  refine m_iinc F (v := 5) (lv' := [(1, .int 5), (0, .ref b)]) e_X9_init_128 rfl (by decide) (by decide) rfl ?_
  refine m_goto F e_X9_init_131 ?_
  refine m_iload_n F rfl e_X9_init_109 ?_
  refine m_bipush F (v := 20) (by decide) e_X9_init_110 ?_
  refine m_icmp_ge F e_X9_init_112 (fun q => absurd q (by decide)) (fun _ => ?_)
  refine m_aload_n F rfl e_X9_init_115 ?_
  refine m_get F e_X9_init_116 fl_X9_35 (ru_ne (by omega) g315) rfl ?_
  refine m_iload_n F rfl e_X9_init_119 ?_
  refine m_new F e_X9_init_120 fn_X9_13 (k' := 512) (z' := 15316) (N' := b + 513) rfl rfl rfl (Nat.le_of_ble_eq_true rfl) (Nat.le_of_ble_eq_true rfl) ?_
  refine m_dup F rfl e_X9_init_123 ?_
  refine m_callI F e_X9_init_124 (k_Book_init (x_l X) V _ (b + 512) ru_eq) cb_X2_init ml_X9_15 im_X2_init rfl rfl (rest := [.ref (b + 512), .int 5, .ref (b + 193)]) rfl (Nat.le_of_ble_eq_true rfl) ⟨Nat.le_of_ble_eq_true rfl, Nat.le_of_ble_eq_true rfl⟩ ⟨Nat.le_of_ble_eq_true rfl, Nat.le_of_ble_eq_true rfl⟩ (k' := 574) (z' := 17123) (N' := b + 575) rfl rfl rfl (fun r τ329 hp => ?_)
  obtain ⟨rfl, bz330, hf331⟩ := hp
  have g332 : τ329 b = some (ob 7 [.ref (b + 1), .int 0, .ref (b + 2), .ref (b + 65), .ref (b + 128), .ref (b + 130), .int 0, .ref (b + 193), .int 0, .int 0, .ref (b + 194), .ref (b + 195), .ref (b + 196)]) := (hf331 b (by omega)).trans (ru_ne (by omega) (ru_ne (by omega) g315))
  have g333 : τ329 (b + 1) = some (aB V 700 (fun _ => 0)) := (hf331 (b + 1) (by omega)).trans (ru_ne (by omega) (ru_ne (by omega) g316))
  have g334 : τ329 (b + 128) = some (ob 5 [.ref (b + 1), .int 0, .ref (b + 65), .ref (b + 129), .int 0, .int 0, .int 0, .int 0, .int 0, .int 0, .int 0, .int 0, .int (-1)]) := (hf331 (b + 128) (by omega)).trans (ru_ne (by omega) (ru_ne (by omega) g317))
  have g335 : τ329 (b + 129) = some (aI V 4 (fun _ => 0)) := (hf331 (b + 129) (by omega)).trans (ru_ne (by omega) (ru_ne (by omega) g318))
  have g336 : τ329 (b + 193) = some (aR 6 V 20 (va_up (va_up (va_up (va_up (va_up (fun _ => none) 0 (some (b + 197))) 1 (some (b + 260))) 2 (some (b + 323))) 3 (some (b + 386))) 4 (some (b + 449)))) := (hf331 (b + 193) (by omega)).trans (ru_ne (by omega) ru_eq)
  have g337 : τ329 (b + 194) = some (ob 0 [.long 0, .long 0]) := (hf331 (b + 194) (by omega)).trans (ru_ne (by omega) (ru_ne (by omega) g320))
  have g338 : τ329 (b + 195) = some (ob 0 [.long 0, .long 0]) := (hf331 (b + 195) (by omega)).trans (ru_ne (by omega) (ru_ne (by omega) g321))
  have g339 : τ329 (b + 196) = some (ob 0 [.long 0, .long 0]) := (hf331 (b + 196) (by omega)).trans (ru_ne (by omega) (ru_ne (by omega) g322))
  have bz340 : BZ V τ329 (b + 2) := bz323.keep (fun x g1 g2 => (hf331 x (by omega)).trans (ru_ne (by omega) (ru_ne (by omega) rfl)))
  have bz341 : BZ V τ329 (b + 65) := bz324.keep (fun x g1 g2 => (hf331 x (by omega)).trans (ru_ne (by omega) (ru_ne (by omega) rfl)))
  have bz342 : BZ V τ329 (b + 130) := bz325.keep (fun x g1 g2 => (hf331 x (by omega)).trans (ru_ne (by omega) (ru_ne (by omega) rfl)))
  have pa343 : ∀ j, j < 5 → BZ V τ329 (b + 197 + 63 * j) := fun j hj => (pa328 j hj).keep (fun x g1 g2 => (hf331 x (by omega)).trans (ru_ne (by omega) (ru_ne (by omega) rfl)))
  have fr344 : ∀ q : Nat, q < b → τ329 q = σ q := fun q h1 => (hf331 q (by omega)).trans (ru_ne (by omega) (ru_ne (by omega) (fr327 q h1)))
  have pa345 : ∀ j, j < 6 → BZ V τ329 (b + 197 + 63 * j) := fun j hj => (Nat.lt_or_ge j 5).elim (fun h => pa343 j h) (fun h => (show 5 = j by omega) ▸ bz330)
  refine m_aast F (j := 5) e_X9_init_127 g336 rfl bz330.1.1 rfl (by decide) (by unfold vp_in; decide) rfl rfl ?_
  refine m_iinc F (v := 6) (lv' := [(1, .int 6), (0, .ref b)]) e_X9_init_128 rfl (by decide) (by decide) rfl ?_
  refine m_goto F e_X9_init_131 ?_
  refine m_iload_n F rfl e_X9_init_109 ?_
  refine m_bipush F (v := 20) (by decide) e_X9_init_110 ?_
  refine m_icmp_ge F e_X9_init_112 (fun q => absurd q (by decide)) (fun _ => ?_)
  refine m_aload_n F rfl e_X9_init_115 ?_
  refine m_get F e_X9_init_116 fl_X9_35 (ru_ne (by omega) g332) rfl ?_
  refine m_iload_n F rfl e_X9_init_119 ?_
  refine m_new F e_X9_init_120 fn_X9_13 (k' := 575) (z' := 17136) (N' := b + 576) rfl rfl rfl (Nat.le_of_ble_eq_true rfl) (Nat.le_of_ble_eq_true rfl) ?_
  refine m_dup F rfl e_X9_init_123 ?_
  refine m_callI F e_X9_init_124 (k_Book_init (x_l X) V _ (b + 575) ru_eq) cb_X2_init ml_X9_15 im_X2_init rfl rfl (rest := [.ref (b + 575), .int 6, .ref (b + 193)]) rfl (Nat.le_of_ble_eq_true rfl) ⟨Nat.le_of_ble_eq_true rfl, Nat.le_of_ble_eq_true rfl⟩ ⟨Nat.le_of_ble_eq_true rfl, Nat.le_of_ble_eq_true rfl⟩ (k' := 637) (z' := 18943) (N' := b + 638) rfl rfl rfl (fun r τ346 hp => ?_)
  obtain ⟨rfl, bz347, hf348⟩ := hp
  have g349 : τ346 b = some (ob 7 [.ref (b + 1), .int 0, .ref (b + 2), .ref (b + 65), .ref (b + 128), .ref (b + 130), .int 0, .ref (b + 193), .int 0, .int 0, .ref (b + 194), .ref (b + 195), .ref (b + 196)]) := (hf348 b (by omega)).trans (ru_ne (by omega) (ru_ne (by omega) g332))
  have g350 : τ346 (b + 1) = some (aB V 700 (fun _ => 0)) := (hf348 (b + 1) (by omega)).trans (ru_ne (by omega) (ru_ne (by omega) g333))
  have g351 : τ346 (b + 128) = some (ob 5 [.ref (b + 1), .int 0, .ref (b + 65), .ref (b + 129), .int 0, .int 0, .int 0, .int 0, .int 0, .int 0, .int 0, .int 0, .int (-1)]) := (hf348 (b + 128) (by omega)).trans (ru_ne (by omega) (ru_ne (by omega) g334))
  have g352 : τ346 (b + 129) = some (aI V 4 (fun _ => 0)) := (hf348 (b + 129) (by omega)).trans (ru_ne (by omega) (ru_ne (by omega) g335))
  have g353 : τ346 (b + 193) = some (aR 6 V 20 (va_up (va_up (va_up (va_up (va_up (va_up (fun _ => none) 0 (some (b + 197))) 1 (some (b + 260))) 2 (some (b + 323))) 3 (some (b + 386))) 4 (some (b + 449))) 5 (some (b + 512)))) := (hf348 (b + 193) (by omega)).trans (ru_ne (by omega) ru_eq)
  have g354 : τ346 (b + 194) = some (ob 0 [.long 0, .long 0]) := (hf348 (b + 194) (by omega)).trans (ru_ne (by omega) (ru_ne (by omega) g337))
  have g355 : τ346 (b + 195) = some (ob 0 [.long 0, .long 0]) := (hf348 (b + 195) (by omega)).trans (ru_ne (by omega) (ru_ne (by omega) g338))
  have g356 : τ346 (b + 196) = some (ob 0 [.long 0, .long 0]) := (hf348 (b + 196) (by omega)).trans (ru_ne (by omega) (ru_ne (by omega) g339))
  have bz357 : BZ V τ346 (b + 2) := bz340.keep (fun x g1 g2 => (hf348 x (by omega)).trans (ru_ne (by omega) (ru_ne (by omega) rfl)))
  have bz358 : BZ V τ346 (b + 65) := bz341.keep (fun x g1 g2 => (hf348 x (by omega)).trans (ru_ne (by omega) (ru_ne (by omega) rfl)))
  have bz359 : BZ V τ346 (b + 130) := bz342.keep (fun x g1 g2 => (hf348 x (by omega)).trans (ru_ne (by omega) (ru_ne (by omega) rfl)))
  have pa360 : ∀ j, j < 6 → BZ V τ346 (b + 197 + 63 * j) := fun j hj => (pa345 j hj).keep (fun x g1 g2 => (hf348 x (by omega)).trans (ru_ne (by omega) (ru_ne (by omega) rfl)))
  have fr361 : ∀ q : Nat, q < b → τ346 q = σ q := fun q h1 => (hf348 q (by omega)).trans (ru_ne (by omega) (ru_ne (by omega) (fr344 q h1)))
  have pa362 : ∀ j, j < 7 → BZ V τ346 (b + 197 + 63 * j) := fun j hj => (Nat.lt_or_ge j 6).elim (fun h => pa360 j h) (fun h => (show 6 = j by omega) ▸ bz347)
  refine m_aast F (j := 6) e_X9_init_127 g353 rfl bz347.1.1 rfl (by decide) (by unfold vp_in; decide) rfl rfl ?_
  refine m_iinc F (v := 7) (lv' := [(1, .int 7), (0, .ref b)]) e_X9_init_128 rfl (by decide) (by decide) rfl ?_
  refine m_goto F e_X9_init_131 ?_
  refine m_iload_n F rfl e_X9_init_109 ?_
  refine m_bipush F (v := 20) (by decide) e_X9_init_110 ?_
  refine m_icmp_ge F e_X9_init_112 (fun q => absurd q (by decide)) (fun _ => ?_)
  refine m_aload_n F rfl e_X9_init_115 ?_
  refine m_get F e_X9_init_116 fl_X9_35 (ru_ne (by omega) g349) rfl ?_
  refine m_iload_n F rfl e_X9_init_119 ?_
  refine m_new F e_X9_init_120 fn_X9_13 (k' := 638) (z' := 18956) (N' := b + 639) rfl rfl rfl (Nat.le_of_ble_eq_true rfl) (Nat.le_of_ble_eq_true rfl) ?_
  refine m_dup F rfl e_X9_init_123 ?_
  refine m_callI F e_X9_init_124 (k_Book_init (x_l X) V _ (b + 638) ru_eq) cb_X2_init ml_X9_15 im_X2_init rfl rfl (rest := [.ref (b + 638), .int 7, .ref (b + 193)]) rfl (Nat.le_of_ble_eq_true rfl) ⟨Nat.le_of_ble_eq_true rfl, Nat.le_of_ble_eq_true rfl⟩ ⟨Nat.le_of_ble_eq_true rfl, Nat.le_of_ble_eq_true rfl⟩ (k' := 700) (z' := 20763) (N' := b + 701) rfl rfl rfl (fun r τ363 hp => ?_)
  obtain ⟨rfl, bz364, hf365⟩ := hp
  have g366 : τ363 b = some (ob 7 [.ref (b + 1), .int 0, .ref (b + 2), .ref (b + 65), .ref (b + 128), .ref (b + 130), .int 0, .ref (b + 193), .int 0, .int 0, .ref (b + 194), .ref (b + 195), .ref (b + 196)]) := (hf365 b (by omega)).trans (ru_ne (by omega) (ru_ne (by omega) g349))
  have g367 : τ363 (b + 1) = some (aB V 700 (fun _ => 0)) := (hf365 (b + 1) (by omega)).trans (ru_ne (by omega) (ru_ne (by omega) g350))
  have g368 : τ363 (b + 128) = some (ob 5 [.ref (b + 1), .int 0, .ref (b + 65), .ref (b + 129), .int 0, .int 0, .int 0, .int 0, .int 0, .int 0, .int 0, .int 0, .int (-1)]) := (hf365 (b + 128) (by omega)).trans (ru_ne (by omega) (ru_ne (by omega) g351))
  have g369 : τ363 (b + 129) = some (aI V 4 (fun _ => 0)) := (hf365 (b + 129) (by omega)).trans (ru_ne (by omega) (ru_ne (by omega) g352))
  have g370 : τ363 (b + 193) = some (aR 6 V 20 (va_up (va_up (va_up (va_up (va_up (va_up (va_up (fun _ => none) 0 (some (b + 197))) 1 (some (b + 260))) 2 (some (b + 323))) 3 (some (b + 386))) 4 (some (b + 449))) 5 (some (b + 512))) 6 (some (b + 575)))) := (hf365 (b + 193) (by omega)).trans (ru_ne (by omega) ru_eq)
  have g371 : τ363 (b + 194) = some (ob 0 [.long 0, .long 0]) := (hf365 (b + 194) (by omega)).trans (ru_ne (by omega) (ru_ne (by omega) g354))
  have g372 : τ363 (b + 195) = some (ob 0 [.long 0, .long 0]) := (hf365 (b + 195) (by omega)).trans (ru_ne (by omega) (ru_ne (by omega) g355))
  have g373 : τ363 (b + 196) = some (ob 0 [.long 0, .long 0]) := (hf365 (b + 196) (by omega)).trans (ru_ne (by omega) (ru_ne (by omega) g356))
  have bz374 : BZ V τ363 (b + 2) := bz357.keep (fun x g1 g2 => (hf365 x (by omega)).trans (ru_ne (by omega) (ru_ne (by omega) rfl)))
  have bz375 : BZ V τ363 (b + 65) := bz358.keep (fun x g1 g2 => (hf365 x (by omega)).trans (ru_ne (by omega) (ru_ne (by omega) rfl)))
  have bz376 : BZ V τ363 (b + 130) := bz359.keep (fun x g1 g2 => (hf365 x (by omega)).trans (ru_ne (by omega) (ru_ne (by omega) rfl)))
  have pa377 : ∀ j, j < 7 → BZ V τ363 (b + 197 + 63 * j) := fun j hj => (pa362 j hj).keep (fun x g1 g2 => (hf365 x (by omega)).trans (ru_ne (by omega) (ru_ne (by omega) rfl)))
  have fr378 : ∀ q : Nat, q < b → τ363 q = σ q := fun q h1 => (hf365 q (by omega)).trans (ru_ne (by omega) (ru_ne (by omega) (fr361 q h1)))
  have pa379 : ∀ j, j < 8 → BZ V τ363 (b + 197 + 63 * j) := fun j hj => (Nat.lt_or_ge j 7).elim (fun h => pa377 j h) (fun h => (show 7 = j by omega) ▸ bz364)
  refine m_aast F (j := 7) e_X9_init_127 g370 rfl bz364.1.1 rfl (by decide) (by unfold vp_in; decide) rfl rfl ?_
  refine m_iinc F (v := 8) (lv' := [(1, .int 8), (0, .ref b)]) e_X9_init_128 rfl (by decide) (by decide) rfl ?_
  refine m_goto F e_X9_init_131 ?_
  refine m_iload_n F rfl e_X9_init_109 ?_
  refine m_bipush F (v := 20) (by decide) e_X9_init_110 ?_
  refine m_icmp_ge F e_X9_init_112 (fun q => absurd q (by decide)) (fun _ => ?_)
  refine m_aload_n F rfl e_X9_init_115 ?_
  refine m_get F e_X9_init_116 fl_X9_35 (ru_ne (by omega) g366) rfl ?_
  refine m_iload_n F rfl e_X9_init_119 ?_
  refine m_new F e_X9_init_120 fn_X9_13 (k' := 701) (z' := 20776) (N' := b + 702) rfl rfl rfl (Nat.le_of_ble_eq_true rfl) (Nat.le_of_ble_eq_true rfl) ?_
  refine m_dup F rfl e_X9_init_123 ?_
  refine m_callI F e_X9_init_124 (k_Book_init (x_l X) V _ (b + 701) ru_eq) cb_X2_init ml_X9_15 im_X2_init rfl rfl (rest := [.ref (b + 701), .int 8, .ref (b + 193)]) rfl (Nat.le_of_ble_eq_true rfl) ⟨Nat.le_of_ble_eq_true rfl, Nat.le_of_ble_eq_true rfl⟩ ⟨Nat.le_of_ble_eq_true rfl, Nat.le_of_ble_eq_true rfl⟩ (k' := 763) (z' := 22583) (N' := b + 764) rfl rfl rfl (fun r τ380 hp => ?_)
  obtain ⟨rfl, bz381, hf382⟩ := hp
  have g383 : τ380 b = some (ob 7 [.ref (b + 1), .int 0, .ref (b + 2), .ref (b + 65), .ref (b + 128), .ref (b + 130), .int 0, .ref (b + 193), .int 0, .int 0, .ref (b + 194), .ref (b + 195), .ref (b + 196)]) := (hf382 b (by omega)).trans (ru_ne (by omega) (ru_ne (by omega) g366))
  have g384 : τ380 (b + 1) = some (aB V 700 (fun _ => 0)) := (hf382 (b + 1) (by omega)).trans (ru_ne (by omega) (ru_ne (by omega) g367))
  have g385 : τ380 (b + 128) = some (ob 5 [.ref (b + 1), .int 0, .ref (b + 65), .ref (b + 129), .int 0, .int 0, .int 0, .int 0, .int 0, .int 0, .int 0, .int 0, .int (-1)]) := (hf382 (b + 128) (by omega)).trans (ru_ne (by omega) (ru_ne (by omega) g368))
  have g386 : τ380 (b + 129) = some (aI V 4 (fun _ => 0)) := (hf382 (b + 129) (by omega)).trans (ru_ne (by omega) (ru_ne (by omega) g369))
  have g387 : τ380 (b + 193) = some (aR 6 V 20 (va_up (va_up (va_up (va_up (va_up (va_up (va_up (va_up (fun _ => none) 0 (some (b + 197))) 1 (some (b + 260))) 2 (some (b + 323))) 3 (some (b + 386))) 4 (some (b + 449))) 5 (some (b + 512))) 6 (some (b + 575))) 7 (some (b + 638)))) := (hf382 (b + 193) (by omega)).trans (ru_ne (by omega) ru_eq)
  have g388 : τ380 (b + 194) = some (ob 0 [.long 0, .long 0]) := (hf382 (b + 194) (by omega)).trans (ru_ne (by omega) (ru_ne (by omega) g371))
  have g389 : τ380 (b + 195) = some (ob 0 [.long 0, .long 0]) := (hf382 (b + 195) (by omega)).trans (ru_ne (by omega) (ru_ne (by omega) g372))
  have g390 : τ380 (b + 196) = some (ob 0 [.long 0, .long 0]) := (hf382 (b + 196) (by omega)).trans (ru_ne (by omega) (ru_ne (by omega) g373))
  have bz391 : BZ V τ380 (b + 2) := bz374.keep (fun x g1 g2 => (hf382 x (by omega)).trans (ru_ne (by omega) (ru_ne (by omega) rfl)))
  have bz392 : BZ V τ380 (b + 65) := bz375.keep (fun x g1 g2 => (hf382 x (by omega)).trans (ru_ne (by omega) (ru_ne (by omega) rfl)))
  have bz393 : BZ V τ380 (b + 130) := bz376.keep (fun x g1 g2 => (hf382 x (by omega)).trans (ru_ne (by omega) (ru_ne (by omega) rfl)))
  have pa394 : ∀ j, j < 8 → BZ V τ380 (b + 197 + 63 * j) := fun j hj => (pa379 j hj).keep (fun x g1 g2 => (hf382 x (by omega)).trans (ru_ne (by omega) (ru_ne (by omega) rfl)))
  have fr395 : ∀ q : Nat, q < b → τ380 q = σ q := fun q h1 => (hf382 q (by omega)).trans (ru_ne (by omega) (ru_ne (by omega) (fr378 q h1)))
  have pa396 : ∀ j, j < 9 → BZ V τ380 (b + 197 + 63 * j) := fun j hj => (Nat.lt_or_ge j 8).elim (fun h => pa394 j h) (fun h => (show 8 = j by omega) ▸ bz381)
  refine m_aast F (j := 8) e_X9_init_127 g387 rfl bz381.1.1 rfl (by decide) (by unfold vp_in; decide) rfl rfl ?_
  refine m_iinc F (v := 9) (lv' := [(1, .int 9), (0, .ref b)]) e_X9_init_128 rfl (by decide) (by decide) rfl ?_
  refine m_goto F e_X9_init_131 ?_
  refine m_iload_n F rfl e_X9_init_109 ?_
  refine m_bipush F (v := 20) (by decide) e_X9_init_110 ?_
  refine m_icmp_ge F e_X9_init_112 (fun q => absurd q (by decide)) (fun _ => ?_)
  refine m_aload_n F rfl e_X9_init_115 ?_
  refine m_get F e_X9_init_116 fl_X9_35 (ru_ne (by omega) g383) rfl ?_
  refine m_iload_n F rfl e_X9_init_119 ?_
  refine m_new F e_X9_init_120 fn_X9_13 (k' := 764) (z' := 22596) (N' := b + 765) rfl rfl rfl (Nat.le_of_ble_eq_true rfl) (Nat.le_of_ble_eq_true rfl) ?_
  refine m_dup F rfl e_X9_init_123 ?_
  refine m_callI F e_X9_init_124 (k_Book_init (x_l X) V _ (b + 764) ru_eq) cb_X2_init ml_X9_15 im_X2_init rfl rfl (rest := [.ref (b + 764), .int 9, .ref (b + 193)]) rfl (Nat.le_of_ble_eq_true rfl) ⟨Nat.le_of_ble_eq_true rfl, Nat.le_of_ble_eq_true rfl⟩ ⟨Nat.le_of_ble_eq_true rfl, Nat.le_of_ble_eq_true rfl⟩ (k' := 826) (z' := 24403) (N' := b + 827) rfl rfl rfl (fun r τ397 hp => ?_)
  obtain ⟨rfl, bz398, hf399⟩ := hp
  have g400 : τ397 b = some (ob 7 [.ref (b + 1), .int 0, .ref (b + 2), .ref (b + 65), .ref (b + 128), .ref (b + 130), .int 0, .ref (b + 193), .int 0, .int 0, .ref (b + 194), .ref (b + 195), .ref (b + 196)]) := (hf399 b (by omega)).trans (ru_ne (by omega) (ru_ne (by omega) g383))
  have g401 : τ397 (b + 1) = some (aB V 700 (fun _ => 0)) := (hf399 (b + 1) (by omega)).trans (ru_ne (by omega) (ru_ne (by omega) g384))
  have g402 : τ397 (b + 128) = some (ob 5 [.ref (b + 1), .int 0, .ref (b + 65), .ref (b + 129), .int 0, .int 0, .int 0, .int 0, .int 0, .int 0, .int 0, .int 0, .int (-1)]) := (hf399 (b + 128) (by omega)).trans (ru_ne (by omega) (ru_ne (by omega) g385))
  have g403 : τ397 (b + 129) = some (aI V 4 (fun _ => 0)) := (hf399 (b + 129) (by omega)).trans (ru_ne (by omega) (ru_ne (by omega) g386))
  have g404 : τ397 (b + 193) = some (aR 6 V 20 (va_up (va_up (va_up (va_up (va_up (va_up (va_up (va_up (va_up (fun _ => none) 0 (some (b + 197))) 1 (some (b + 260))) 2 (some (b + 323))) 3 (some (b + 386))) 4 (some (b + 449))) 5 (some (b + 512))) 6 (some (b + 575))) 7 (some (b + 638))) 8 (some (b + 701)))) := (hf399 (b + 193) (by omega)).trans (ru_ne (by omega) ru_eq)
  have g405 : τ397 (b + 194) = some (ob 0 [.long 0, .long 0]) := (hf399 (b + 194) (by omega)).trans (ru_ne (by omega) (ru_ne (by omega) g388))
  have g406 : τ397 (b + 195) = some (ob 0 [.long 0, .long 0]) := (hf399 (b + 195) (by omega)).trans (ru_ne (by omega) (ru_ne (by omega) g389))
  have g407 : τ397 (b + 196) = some (ob 0 [.long 0, .long 0]) := (hf399 (b + 196) (by omega)).trans (ru_ne (by omega) (ru_ne (by omega) g390))
  have bz408 : BZ V τ397 (b + 2) := bz391.keep (fun x g1 g2 => (hf399 x (by omega)).trans (ru_ne (by omega) (ru_ne (by omega) rfl)))
  have bz409 : BZ V τ397 (b + 65) := bz392.keep (fun x g1 g2 => (hf399 x (by omega)).trans (ru_ne (by omega) (ru_ne (by omega) rfl)))
  have bz410 : BZ V τ397 (b + 130) := bz393.keep (fun x g1 g2 => (hf399 x (by omega)).trans (ru_ne (by omega) (ru_ne (by omega) rfl)))
  have pa411 : ∀ j, j < 9 → BZ V τ397 (b + 197 + 63 * j) := fun j hj => (pa396 j hj).keep (fun x g1 g2 => (hf399 x (by omega)).trans (ru_ne (by omega) (ru_ne (by omega) rfl)))
  have fr412 : ∀ q : Nat, q < b → τ397 q = σ q := fun q h1 => (hf399 q (by omega)).trans (ru_ne (by omega) (ru_ne (by omega) (fr395 q h1)))
  have pa413 : ∀ j, j < 10 → BZ V τ397 (b + 197 + 63 * j) := fun j hj => (Nat.lt_or_ge j 9).elim (fun h => pa411 j h) (fun h => (show 9 = j by omega) ▸ bz398)
  refine m_aast F (j := 9) e_X9_init_127 g404 rfl bz398.1.1 rfl (by decide) (by unfold vp_in; decide) rfl rfl ?_
  refine m_iinc F (v := 10) (lv' := [(1, .int 10), (0, .ref b)]) e_X9_init_128 rfl (by decide) (by decide) rfl ?_
  refine m_goto F e_X9_init_131 ?_
  refine m_iload_n F rfl e_X9_init_109 ?_
  refine m_bipush F (v := 20) (by decide) e_X9_init_110 ?_
  refine m_icmp_ge F e_X9_init_112 (fun q => absurd q (by decide)) (fun _ => ?_)
  refine m_aload_n F rfl e_X9_init_115 ?_
  refine m_get F e_X9_init_116 fl_X9_35 (ru_ne (by omega) g400) rfl ?_
  refine m_iload_n F rfl e_X9_init_119 ?_
  refine m_new F e_X9_init_120 fn_X9_13 (k' := 827) (z' := 24416) (N' := b + 828) rfl rfl rfl (Nat.le_of_ble_eq_true rfl) (Nat.le_of_ble_eq_true rfl) ?_
  refine m_dup F rfl e_X9_init_123 ?_
  refine m_callI F e_X9_init_124 (k_Book_init (x_l X) V _ (b + 827) ru_eq) cb_X2_init ml_X9_15 im_X2_init rfl rfl (rest := [.ref (b + 827), .int 10, .ref (b + 193)]) rfl (Nat.le_of_ble_eq_true rfl) ⟨Nat.le_of_ble_eq_true rfl, Nat.le_of_ble_eq_true rfl⟩ ⟨Nat.le_of_ble_eq_true rfl, Nat.le_of_ble_eq_true rfl⟩ (k' := 889) (z' := 26223) (N' := b + 890) rfl rfl rfl (fun r τ414 hp => ?_)
  obtain ⟨rfl, bz415, hf416⟩ := hp
  have g417 : τ414 b = some (ob 7 [.ref (b + 1), .int 0, .ref (b + 2), .ref (b + 65), .ref (b + 128), .ref (b + 130), .int 0, .ref (b + 193), .int 0, .int 0, .ref (b + 194), .ref (b + 195), .ref (b + 196)]) := (hf416 b (by omega)).trans (ru_ne (by omega) (ru_ne (by omega) g400))
  have g418 : τ414 (b + 1) = some (aB V 700 (fun _ => 0)) := (hf416 (b + 1) (by omega)).trans (ru_ne (by omega) (ru_ne (by omega) g401))
  have g419 : τ414 (b + 128) = some (ob 5 [.ref (b + 1), .int 0, .ref (b + 65), .ref (b + 129), .int 0, .int 0, .int 0, .int 0, .int 0, .int 0, .int 0, .int 0, .int (-1)]) := (hf416 (b + 128) (by omega)).trans (ru_ne (by omega) (ru_ne (by omega) g402))
  have g420 : τ414 (b + 129) = some (aI V 4 (fun _ => 0)) := (hf416 (b + 129) (by omega)).trans (ru_ne (by omega) (ru_ne (by omega) g403))
  have g421 : τ414 (b + 193) = some (aR 6 V 20 (va_up (va_up (va_up (va_up (va_up (va_up (va_up (va_up (va_up (va_up (fun _ => none) 0 (some (b + 197))) 1 (some (b + 260))) 2 (some (b + 323))) 3 (some (b + 386))) 4 (some (b + 449))) 5 (some (b + 512))) 6 (some (b + 575))) 7 (some (b + 638))) 8 (some (b + 701))) 9 (some (b + 764)))) := (hf416 (b + 193) (by omega)).trans (ru_ne (by omega) ru_eq)
  have g422 : τ414 (b + 194) = some (ob 0 [.long 0, .long 0]) := (hf416 (b + 194) (by omega)).trans (ru_ne (by omega) (ru_ne (by omega) g405))
  have g423 : τ414 (b + 195) = some (ob 0 [.long 0, .long 0]) := (hf416 (b + 195) (by omega)).trans (ru_ne (by omega) (ru_ne (by omega) g406))
  have g424 : τ414 (b + 196) = some (ob 0 [.long 0, .long 0]) := (hf416 (b + 196) (by omega)).trans (ru_ne (by omega) (ru_ne (by omega) g407))
  have bz425 : BZ V τ414 (b + 2) := bz408.keep (fun x g1 g2 => (hf416 x (by omega)).trans (ru_ne (by omega) (ru_ne (by omega) rfl)))
  have bz426 : BZ V τ414 (b + 65) := bz409.keep (fun x g1 g2 => (hf416 x (by omega)).trans (ru_ne (by omega) (ru_ne (by omega) rfl)))
  have bz427 : BZ V τ414 (b + 130) := bz410.keep (fun x g1 g2 => (hf416 x (by omega)).trans (ru_ne (by omega) (ru_ne (by omega) rfl)))
  have pa428 : ∀ j, j < 10 → BZ V τ414 (b + 197 + 63 * j) := fun j hj => (pa413 j hj).keep (fun x g1 g2 => (hf416 x (by omega)).trans (ru_ne (by omega) (ru_ne (by omega) rfl)))
  have fr429 : ∀ q : Nat, q < b → τ414 q = σ q := fun q h1 => (hf416 q (by omega)).trans (ru_ne (by omega) (ru_ne (by omega) (fr412 q h1)))
  have pa430 : ∀ j, j < 11 → BZ V τ414 (b + 197 + 63 * j) := fun j hj => (Nat.lt_or_ge j 10).elim (fun h => pa428 j h) (fun h => (show 10 = j by omega) ▸ bz415)
  refine m_aast F (j := 10) e_X9_init_127 g421 rfl bz415.1.1 rfl (by decide) (by unfold vp_in; decide) rfl rfl ?_
  refine m_iinc F (v := 11) (lv' := [(1, .int 11), (0, .ref b)]) e_X9_init_128 rfl (by decide) (by decide) rfl ?_
  refine m_goto F e_X9_init_131 ?_
  refine m_iload_n F rfl e_X9_init_109 ?_
  refine m_bipush F (v := 20) (by decide) e_X9_init_110 ?_
  refine m_icmp_ge F e_X9_init_112 (fun q => absurd q (by decide)) (fun _ => ?_)
  refine m_aload_n F rfl e_X9_init_115 ?_
  refine m_get F e_X9_init_116 fl_X9_35 (ru_ne (by omega) g417) rfl ?_
  refine m_iload_n F rfl e_X9_init_119 ?_
  refine m_new F e_X9_init_120 fn_X9_13 (k' := 890) (z' := 26236) (N' := b + 891) rfl rfl rfl (Nat.le_of_ble_eq_true rfl) (Nat.le_of_ble_eq_true rfl) ?_
  refine m_dup F rfl e_X9_init_123 ?_
  refine m_callI F e_X9_init_124 (k_Book_init (x_l X) V _ (b + 890) ru_eq) cb_X2_init ml_X9_15 im_X2_init rfl rfl (rest := [.ref (b + 890), .int 11, .ref (b + 193)]) rfl (Nat.le_of_ble_eq_true rfl) ⟨Nat.le_of_ble_eq_true rfl, Nat.le_of_ble_eq_true rfl⟩ ⟨Nat.le_of_ble_eq_true rfl, Nat.le_of_ble_eq_true rfl⟩ (k' := 952) (z' := 28043) (N' := b + 953) rfl rfl rfl (fun r τ431 hp => ?_)
  obtain ⟨rfl, bz432, hf433⟩ := hp
  have g434 : τ431 b = some (ob 7 [.ref (b + 1), .int 0, .ref (b + 2), .ref (b + 65), .ref (b + 128), .ref (b + 130), .int 0, .ref (b + 193), .int 0, .int 0, .ref (b + 194), .ref (b + 195), .ref (b + 196)]) := (hf433 b (by omega)).trans (ru_ne (by omega) (ru_ne (by omega) g417))
  have g435 : τ431 (b + 1) = some (aB V 700 (fun _ => 0)) := (hf433 (b + 1) (by omega)).trans (ru_ne (by omega) (ru_ne (by omega) g418))
  have g436 : τ431 (b + 128) = some (ob 5 [.ref (b + 1), .int 0, .ref (b + 65), .ref (b + 129), .int 0, .int 0, .int 0, .int 0, .int 0, .int 0, .int 0, .int 0, .int (-1)]) := (hf433 (b + 128) (by omega)).trans (ru_ne (by omega) (ru_ne (by omega) g419))
  have g437 : τ431 (b + 129) = some (aI V 4 (fun _ => 0)) := (hf433 (b + 129) (by omega)).trans (ru_ne (by omega) (ru_ne (by omega) g420))
  have g438 : τ431 (b + 193) = some (aR 6 V 20 (va_up (va_up (va_up (va_up (va_up (va_up (va_up (va_up (va_up (va_up (va_up (fun _ => none) 0 (some (b + 197))) 1 (some (b + 260))) 2 (some (b + 323))) 3 (some (b + 386))) 4 (some (b + 449))) 5 (some (b + 512))) 6 (some (b + 575))) 7 (some (b + 638))) 8 (some (b + 701))) 9 (some (b + 764))) 10 (some (b + 827)))) := (hf433 (b + 193) (by omega)).trans (ru_ne (by omega) ru_eq)
  have g439 : τ431 (b + 194) = some (ob 0 [.long 0, .long 0]) := (hf433 (b + 194) (by omega)).trans (ru_ne (by omega) (ru_ne (by omega) g422))
  have g440 : τ431 (b + 195) = some (ob 0 [.long 0, .long 0]) := (hf433 (b + 195) (by omega)).trans (ru_ne (by omega) (ru_ne (by omega) g423))
  have g441 : τ431 (b + 196) = some (ob 0 [.long 0, .long 0]) := (hf433 (b + 196) (by omega)).trans (ru_ne (by omega) (ru_ne (by omega) g424))
  have bz442 : BZ V τ431 (b + 2) := bz425.keep (fun x g1 g2 => (hf433 x (by omega)).trans (ru_ne (by omega) (ru_ne (by omega) rfl)))
  have bz443 : BZ V τ431 (b + 65) := bz426.keep (fun x g1 g2 => (hf433 x (by omega)).trans (ru_ne (by omega) (ru_ne (by omega) rfl)))
  have bz444 : BZ V τ431 (b + 130) := bz427.keep (fun x g1 g2 => (hf433 x (by omega)).trans (ru_ne (by omega) (ru_ne (by omega) rfl)))
  have pa445 : ∀ j, j < 11 → BZ V τ431 (b + 197 + 63 * j) := fun j hj => (pa430 j hj).keep (fun x g1 g2 => (hf433 x (by omega)).trans (ru_ne (by omega) (ru_ne (by omega) rfl)))
  have fr446 : ∀ q : Nat, q < b → τ431 q = σ q := fun q h1 => (hf433 q (by omega)).trans (ru_ne (by omega) (ru_ne (by omega) (fr429 q h1)))
  have pa447 : ∀ j, j < 12 → BZ V τ431 (b + 197 + 63 * j) := fun j hj => (Nat.lt_or_ge j 11).elim (fun h => pa445 j h) (fun h => (show 11 = j by omega) ▸ bz432)
  refine m_aast F (j := 11) e_X9_init_127 g438 rfl bz432.1.1 rfl (by decide) (by unfold vp_in; decide) rfl rfl ?_
  refine m_iinc F (v := 12) (lv' := [(1, .int 12), (0, .ref b)]) e_X9_init_128 rfl (by decide) (by decide) rfl ?_
  refine m_goto F e_X9_init_131 ?_
  refine m_iload_n F rfl e_X9_init_109 ?_
  refine m_bipush F (v := 20) (by decide) e_X9_init_110 ?_
  refine m_icmp_ge F e_X9_init_112 (fun q => absurd q (by decide)) (fun _ => ?_)
  refine m_aload_n F rfl e_X9_init_115 ?_
  refine m_get F e_X9_init_116 fl_X9_35 (ru_ne (by omega) g434) rfl ?_
  refine m_iload_n F rfl e_X9_init_119 ?_
  refine m_new F e_X9_init_120 fn_X9_13 (k' := 953) (z' := 28056) (N' := b + 954) rfl rfl rfl (Nat.le_of_ble_eq_true rfl) (Nat.le_of_ble_eq_true rfl) ?_
  refine m_dup F rfl e_X9_init_123 ?_
  refine m_callI F e_X9_init_124 (k_Book_init (x_l X) V _ (b + 953) ru_eq) cb_X2_init ml_X9_15 im_X2_init rfl rfl (rest := [.ref (b + 953), .int 12, .ref (b + 193)]) rfl (Nat.le_of_ble_eq_true rfl) ⟨Nat.le_of_ble_eq_true rfl, Nat.le_of_ble_eq_true rfl⟩ ⟨Nat.le_of_ble_eq_true rfl, Nat.le_of_ble_eq_true rfl⟩ (k' := 1015) (z' := 29863) (N' := b + 1016) rfl rfl rfl (fun r τ448 hp => ?_)
  obtain ⟨rfl, bz449, hf450⟩ := hp
  have g451 : τ448 b = some (ob 7 [.ref (b + 1), .int 0, .ref (b + 2), .ref (b + 65), .ref (b + 128), .ref (b + 130), .int 0, .ref (b + 193), .int 0, .int 0, .ref (b + 194), .ref (b + 195), .ref (b + 196)]) := (hf450 b (by omega)).trans (ru_ne (by omega) (ru_ne (by omega) g434))
  have g452 : τ448 (b + 1) = some (aB V 700 (fun _ => 0)) := (hf450 (b + 1) (by omega)).trans (ru_ne (by omega) (ru_ne (by omega) g435))
  have g453 : τ448 (b + 128) = some (ob 5 [.ref (b + 1), .int 0, .ref (b + 65), .ref (b + 129), .int 0, .int 0, .int 0, .int 0, .int 0, .int 0, .int 0, .int 0, .int (-1)]) := (hf450 (b + 128) (by omega)).trans (ru_ne (by omega) (ru_ne (by omega) g436))
  have g454 : τ448 (b + 129) = some (aI V 4 (fun _ => 0)) := (hf450 (b + 129) (by omega)).trans (ru_ne (by omega) (ru_ne (by omega) g437))
  have g455 : τ448 (b + 193) = some (aR 6 V 20 (va_up (va_up (va_up (va_up (va_up (va_up (va_up (va_up (va_up (va_up (va_up (va_up (fun _ => none) 0 (some (b + 197))) 1 (some (b + 260))) 2 (some (b + 323))) 3 (some (b + 386))) 4 (some (b + 449))) 5 (some (b + 512))) 6 (some (b + 575))) 7 (some (b + 638))) 8 (some (b + 701))) 9 (some (b + 764))) 10 (some (b + 827))) 11 (some (b + 890)))) := (hf450 (b + 193) (by omega)).trans (ru_ne (by omega) ru_eq)
  have g456 : τ448 (b + 194) = some (ob 0 [.long 0, .long 0]) := (hf450 (b + 194) (by omega)).trans (ru_ne (by omega) (ru_ne (by omega) g439))
  have g457 : τ448 (b + 195) = some (ob 0 [.long 0, .long 0]) := (hf450 (b + 195) (by omega)).trans (ru_ne (by omega) (ru_ne (by omega) g440))
  have g458 : τ448 (b + 196) = some (ob 0 [.long 0, .long 0]) := (hf450 (b + 196) (by omega)).trans (ru_ne (by omega) (ru_ne (by omega) g441))
  have bz459 : BZ V τ448 (b + 2) := bz442.keep (fun x g1 g2 => (hf450 x (by omega)).trans (ru_ne (by omega) (ru_ne (by omega) rfl)))
  have bz460 : BZ V τ448 (b + 65) := bz443.keep (fun x g1 g2 => (hf450 x (by omega)).trans (ru_ne (by omega) (ru_ne (by omega) rfl)))
  have bz461 : BZ V τ448 (b + 130) := bz444.keep (fun x g1 g2 => (hf450 x (by omega)).trans (ru_ne (by omega) (ru_ne (by omega) rfl)))
  have pa462 : ∀ j, j < 12 → BZ V τ448 (b + 197 + 63 * j) := fun j hj => (pa447 j hj).keep (fun x g1 g2 => (hf450 x (by omega)).trans (ru_ne (by omega) (ru_ne (by omega) rfl)))
  have fr463 : ∀ q : Nat, q < b → τ448 q = σ q := fun q h1 => (hf450 q (by omega)).trans (ru_ne (by omega) (ru_ne (by omega) (fr446 q h1)))
  have pa464 : ∀ j, j < 13 → BZ V τ448 (b + 197 + 63 * j) := fun j hj => (Nat.lt_or_ge j 12).elim (fun h => pa462 j h) (fun h => (show 12 = j by omega) ▸ bz449)
  refine m_aast F (j := 12) e_X9_init_127 g455 rfl bz449.1.1 rfl (by decide) (by unfold vp_in; decide) rfl rfl ?_
  refine m_iinc F (v := 13) (lv' := [(1, .int 13), (0, .ref b)]) e_X9_init_128 rfl (by decide) (by decide) rfl ?_
  refine m_goto F e_X9_init_131 ?_
  refine m_iload_n F rfl e_X9_init_109 ?_
  refine m_bipush F (v := 20) (by decide) e_X9_init_110 ?_
  refine m_icmp_ge F e_X9_init_112 (fun q => absurd q (by decide)) (fun _ => ?_)
  refine m_aload_n F rfl e_X9_init_115 ?_
  refine m_get F e_X9_init_116 fl_X9_35 (ru_ne (by omega) g451) rfl ?_
  refine m_iload_n F rfl e_X9_init_119 ?_
  refine m_new F e_X9_init_120 fn_X9_13 (k' := 1016) (z' := 29876) (N' := b + 1017) rfl rfl rfl (Nat.le_of_ble_eq_true rfl) (Nat.le_of_ble_eq_true rfl) ?_
  refine m_dup F rfl e_X9_init_123 ?_
  refine m_callI F e_X9_init_124 (k_Book_init (x_l X) V _ (b + 1016) ru_eq) cb_X2_init ml_X9_15 im_X2_init rfl rfl (rest := [.ref (b + 1016), .int 13, .ref (b + 193)]) rfl (Nat.le_of_ble_eq_true rfl) ⟨Nat.le_of_ble_eq_true rfl, Nat.le_of_ble_eq_true rfl⟩ ⟨Nat.le_of_ble_eq_true rfl, Nat.le_of_ble_eq_true rfl⟩ (k' := 1078) (z' := 31683) (N' := b + 1079) rfl rfl rfl (fun r τ465 hp => ?_)
  obtain ⟨rfl, bz466, hf467⟩ := hp
  have g468 : τ465 b = some (ob 7 [.ref (b + 1), .int 0, .ref (b + 2), .ref (b + 65), .ref (b + 128), .ref (b + 130), .int 0, .ref (b + 193), .int 0, .int 0, .ref (b + 194), .ref (b + 195), .ref (b + 196)]) := (hf467 b (by omega)).trans (ru_ne (by omega) (ru_ne (by omega) g451))
  have g469 : τ465 (b + 1) = some (aB V 700 (fun _ => 0)) := (hf467 (b + 1) (by omega)).trans (ru_ne (by omega) (ru_ne (by omega) g452))
  have g470 : τ465 (b + 128) = some (ob 5 [.ref (b + 1), .int 0, .ref (b + 65), .ref (b + 129), .int 0, .int 0, .int 0, .int 0, .int 0, .int 0, .int 0, .int 0, .int (-1)]) := (hf467 (b + 128) (by omega)).trans (ru_ne (by omega) (ru_ne (by omega) g453))
  have g471 : τ465 (b + 129) = some (aI V 4 (fun _ => 0)) := (hf467 (b + 129) (by omega)).trans (ru_ne (by omega) (ru_ne (by omega) g454))
  have g472 : τ465 (b + 193) = some (aR 6 V 20 (va_up (va_up (va_up (va_up (va_up (va_up (va_up (va_up (va_up (va_up (va_up (va_up (va_up (fun _ => none) 0 (some (b + 197))) 1 (some (b + 260))) 2 (some (b + 323))) 3 (some (b + 386))) 4 (some (b + 449))) 5 (some (b + 512))) 6 (some (b + 575))) 7 (some (b + 638))) 8 (some (b + 701))) 9 (some (b + 764))) 10 (some (b + 827))) 11 (some (b + 890))) 12 (some (b + 953)))) := (hf467 (b + 193) (by omega)).trans (ru_ne (by omega) ru_eq)
  have g473 : τ465 (b + 194) = some (ob 0 [.long 0, .long 0]) := (hf467 (b + 194) (by omega)).trans (ru_ne (by omega) (ru_ne (by omega) g456))
  have g474 : τ465 (b + 195) = some (ob 0 [.long 0, .long 0]) := (hf467 (b + 195) (by omega)).trans (ru_ne (by omega) (ru_ne (by omega) g457))
  have g475 : τ465 (b + 196) = some (ob 0 [.long 0, .long 0]) := (hf467 (b + 196) (by omega)).trans (ru_ne (by omega) (ru_ne (by omega) g458))
  have bz476 : BZ V τ465 (b + 2) := bz459.keep (fun x g1 g2 => (hf467 x (by omega)).trans (ru_ne (by omega) (ru_ne (by omega) rfl)))
  have bz477 : BZ V τ465 (b + 65) := bz460.keep (fun x g1 g2 => (hf467 x (by omega)).trans (ru_ne (by omega) (ru_ne (by omega) rfl)))
  have bz478 : BZ V τ465 (b + 130) := bz461.keep (fun x g1 g2 => (hf467 x (by omega)).trans (ru_ne (by omega) (ru_ne (by omega) rfl)))
  have pa479 : ∀ j, j < 13 → BZ V τ465 (b + 197 + 63 * j) := fun j hj => (pa464 j hj).keep (fun x g1 g2 => (hf467 x (by omega)).trans (ru_ne (by omega) (ru_ne (by omega) rfl)))
  have fr480 : ∀ q : Nat, q < b → τ465 q = σ q := fun q h1 => (hf467 q (by omega)).trans (ru_ne (by omega) (ru_ne (by omega) (fr463 q h1)))
  have pa481 : ∀ j, j < 14 → BZ V τ465 (b + 197 + 63 * j) := fun j hj => (Nat.lt_or_ge j 13).elim (fun h => pa479 j h) (fun h => (show 13 = j by omega) ▸ bz466)
  refine m_aast F (j := 13) e_X9_init_127 g472 rfl bz466.1.1 rfl (by decide) (by unfold vp_in; decide) rfl rfl ?_
  refine m_iinc F (v := 14) (lv' := [(1, .int 14), (0, .ref b)]) e_X9_init_128 rfl (by decide) (by decide) rfl ?_
  refine m_goto F e_X9_init_131 ?_
  refine m_iload_n F rfl e_X9_init_109 ?_
  refine m_bipush F (v := 20) (by decide) e_X9_init_110 ?_
  refine m_icmp_ge F e_X9_init_112 (fun q => absurd q (by decide)) (fun _ => ?_)
  refine m_aload_n F rfl e_X9_init_115 ?_
  refine m_get F e_X9_init_116 fl_X9_35 (ru_ne (by omega) g468) rfl ?_
  refine m_iload_n F rfl e_X9_init_119 ?_
  refine m_new F e_X9_init_120 fn_X9_13 (k' := 1079) (z' := 31696) (N' := b + 1080) rfl rfl rfl (Nat.le_of_ble_eq_true rfl) (Nat.le_of_ble_eq_true rfl) ?_
  refine m_dup F rfl e_X9_init_123 ?_
  refine m_callI F e_X9_init_124 (k_Book_init (x_l X) V _ (b + 1079) ru_eq) cb_X2_init ml_X9_15 im_X2_init rfl rfl (rest := [.ref (b + 1079), .int 14, .ref (b + 193)]) rfl (Nat.le_of_ble_eq_true rfl) ⟨Nat.le_of_ble_eq_true rfl, Nat.le_of_ble_eq_true rfl⟩ ⟨Nat.le_of_ble_eq_true rfl, Nat.le_of_ble_eq_true rfl⟩ (k' := 1141) (z' := 33503) (N' := b + 1142) rfl rfl rfl (fun r τ482 hp => ?_)
  obtain ⟨rfl, bz483, hf484⟩ := hp
  have g485 : τ482 b = some (ob 7 [.ref (b + 1), .int 0, .ref (b + 2), .ref (b + 65), .ref (b + 128), .ref (b + 130), .int 0, .ref (b + 193), .int 0, .int 0, .ref (b + 194), .ref (b + 195), .ref (b + 196)]) := (hf484 b (by omega)).trans (ru_ne (by omega) (ru_ne (by omega) g468))
  have g486 : τ482 (b + 1) = some (aB V 700 (fun _ => 0)) := (hf484 (b + 1) (by omega)).trans (ru_ne (by omega) (ru_ne (by omega) g469))
  have g487 : τ482 (b + 128) = some (ob 5 [.ref (b + 1), .int 0, .ref (b + 65), .ref (b + 129), .int 0, .int 0, .int 0, .int 0, .int 0, .int 0, .int 0, .int 0, .int (-1)]) := (hf484 (b + 128) (by omega)).trans (ru_ne (by omega) (ru_ne (by omega) g470))
  have g488 : τ482 (b + 129) = some (aI V 4 (fun _ => 0)) := (hf484 (b + 129) (by omega)).trans (ru_ne (by omega) (ru_ne (by omega) g471))
  have g489 : τ482 (b + 193) = some (aR 6 V 20 (va_up (va_up (va_up (va_up (va_up (va_up (va_up (va_up (va_up (va_up (va_up (va_up (va_up (va_up (fun _ => none) 0 (some (b + 197))) 1 (some (b + 260))) 2 (some (b + 323))) 3 (some (b + 386))) 4 (some (b + 449))) 5 (some (b + 512))) 6 (some (b + 575))) 7 (some (b + 638))) 8 (some (b + 701))) 9 (some (b + 764))) 10 (some (b + 827))) 11 (some (b + 890))) 12 (some (b + 953))) 13 (some (b + 1016)))) := (hf484 (b + 193) (by omega)).trans (ru_ne (by omega) ru_eq)
  have g490 : τ482 (b + 194) = some (ob 0 [.long 0, .long 0]) := (hf484 (b + 194) (by omega)).trans (ru_ne (by omega) (ru_ne (by omega) g473))
  have g491 : τ482 (b + 195) = some (ob 0 [.long 0, .long 0]) := (hf484 (b + 195) (by omega)).trans (ru_ne (by omega) (ru_ne (by omega) g474))
  have g492 : τ482 (b + 196) = some (ob 0 [.long 0, .long 0]) := (hf484 (b + 196) (by omega)).trans (ru_ne (by omega) (ru_ne (by omega) g475))
  have bz493 : BZ V τ482 (b + 2) := bz476.keep (fun x g1 g2 => (hf484 x (by omega)).trans (ru_ne (by omega) (ru_ne (by omega) rfl)))
  have bz494 : BZ V τ482 (b + 65) := bz477.keep (fun x g1 g2 => (hf484 x (by omega)).trans (ru_ne (by omega) (ru_ne (by omega) rfl)))
  have bz495 : BZ V τ482 (b + 130) := bz478.keep (fun x g1 g2 => (hf484 x (by omega)).trans (ru_ne (by omega) (ru_ne (by omega) rfl)))
  have pa496 : ∀ j, j < 14 → BZ V τ482 (b + 197 + 63 * j) := fun j hj => (pa481 j hj).keep (fun x g1 g2 => (hf484 x (by omega)).trans (ru_ne (by omega) (ru_ne (by omega) rfl)))
  have fr497 : ∀ q : Nat, q < b → τ482 q = σ q := fun q h1 => (hf484 q (by omega)).trans (ru_ne (by omega) (ru_ne (by omega) (fr480 q h1)))
  have pa498 : ∀ j, j < 15 → BZ V τ482 (b + 197 + 63 * j) := fun j hj => (Nat.lt_or_ge j 14).elim (fun h => pa496 j h) (fun h => (show 14 = j by omega) ▸ bz483)
  refine m_aast F (j := 14) e_X9_init_127 g489 rfl bz483.1.1 rfl (by decide) (by unfold vp_in; decide) rfl rfl ?_
  refine m_iinc F (v := 15) (lv' := [(1, .int 15), (0, .ref b)]) e_X9_init_128 rfl (by decide) (by decide) rfl ?_
  refine m_goto F e_X9_init_131 ?_
  refine m_iload_n F rfl e_X9_init_109 ?_
  refine m_bipush F (v := 20) (by decide) e_X9_init_110 ?_
  refine m_icmp_ge F e_X9_init_112 (fun q => absurd q (by decide)) (fun _ => ?_)
  refine m_aload_n F rfl e_X9_init_115 ?_
  refine m_get F e_X9_init_116 fl_X9_35 (ru_ne (by omega) g485) rfl ?_
  refine m_iload_n F rfl e_X9_init_119 ?_
  refine m_new F e_X9_init_120 fn_X9_13 (k' := 1142) (z' := 33516) (N' := b + 1143) rfl rfl rfl (Nat.le_of_ble_eq_true rfl) (Nat.le_of_ble_eq_true rfl) ?_
  refine m_dup F rfl e_X9_init_123 ?_
  refine m_callI F e_X9_init_124 (k_Book_init (x_l X) V _ (b + 1142) ru_eq) cb_X2_init ml_X9_15 im_X2_init rfl rfl (rest := [.ref (b + 1142), .int 15, .ref (b + 193)]) rfl (Nat.le_of_ble_eq_true rfl) ⟨Nat.le_of_ble_eq_true rfl, Nat.le_of_ble_eq_true rfl⟩ ⟨Nat.le_of_ble_eq_true rfl, Nat.le_of_ble_eq_true rfl⟩ (k' := 1204) (z' := 35323) (N' := b + 1205) rfl rfl rfl (fun r τ499 hp => ?_)
  obtain ⟨rfl, bz500, hf501⟩ := hp
  have g502 : τ499 b = some (ob 7 [.ref (b + 1), .int 0, .ref (b + 2), .ref (b + 65), .ref (b + 128), .ref (b + 130), .int 0, .ref (b + 193), .int 0, .int 0, .ref (b + 194), .ref (b + 195), .ref (b + 196)]) := (hf501 b (by omega)).trans (ru_ne (by omega) (ru_ne (by omega) g485))
  have g503 : τ499 (b + 1) = some (aB V 700 (fun _ => 0)) := (hf501 (b + 1) (by omega)).trans (ru_ne (by omega) (ru_ne (by omega) g486))
  have g504 : τ499 (b + 128) = some (ob 5 [.ref (b + 1), .int 0, .ref (b + 65), .ref (b + 129), .int 0, .int 0, .int 0, .int 0, .int 0, .int 0, .int 0, .int 0, .int (-1)]) := (hf501 (b + 128) (by omega)).trans (ru_ne (by omega) (ru_ne (by omega) g487))
  have g505 : τ499 (b + 129) = some (aI V 4 (fun _ => 0)) := (hf501 (b + 129) (by omega)).trans (ru_ne (by omega) (ru_ne (by omega) g488))
  have g506 : τ499 (b + 193) = some (aR 6 V 20 (va_up (va_up (va_up (va_up (va_up (va_up (va_up (va_up (va_up (va_up (va_up (va_up (va_up (va_up (va_up (fun _ => none) 0 (some (b + 197))) 1 (some (b + 260))) 2 (some (b + 323))) 3 (some (b + 386))) 4 (some (b + 449))) 5 (some (b + 512))) 6 (some (b + 575))) 7 (some (b + 638))) 8 (some (b + 701))) 9 (some (b + 764))) 10 (some (b + 827))) 11 (some (b + 890))) 12 (some (b + 953))) 13 (some (b + 1016))) 14 (some (b + 1079)))) := (hf501 (b + 193) (by omega)).trans (ru_ne (by omega) ru_eq)
  have g507 : τ499 (b + 194) = some (ob 0 [.long 0, .long 0]) := (hf501 (b + 194) (by omega)).trans (ru_ne (by omega) (ru_ne (by omega) g490))
  have g508 : τ499 (b + 195) = some (ob 0 [.long 0, .long 0]) := (hf501 (b + 195) (by omega)).trans (ru_ne (by omega) (ru_ne (by omega) g491))
  have g509 : τ499 (b + 196) = some (ob 0 [.long 0, .long 0]) := (hf501 (b + 196) (by omega)).trans (ru_ne (by omega) (ru_ne (by omega) g492))
  have bz510 : BZ V τ499 (b + 2) := bz493.keep (fun x g1 g2 => (hf501 x (by omega)).trans (ru_ne (by omega) (ru_ne (by omega) rfl)))
  have bz511 : BZ V τ499 (b + 65) := bz494.keep (fun x g1 g2 => (hf501 x (by omega)).trans (ru_ne (by omega) (ru_ne (by omega) rfl)))
  have bz512 : BZ V τ499 (b + 130) := bz495.keep (fun x g1 g2 => (hf501 x (by omega)).trans (ru_ne (by omega) (ru_ne (by omega) rfl)))
  have pa513 : ∀ j, j < 15 → BZ V τ499 (b + 197 + 63 * j) := fun j hj => (pa498 j hj).keep (fun x g1 g2 => (hf501 x (by omega)).trans (ru_ne (by omega) (ru_ne (by omega) rfl)))
  have fr514 : ∀ q : Nat, q < b → τ499 q = σ q := fun q h1 => (hf501 q (by omega)).trans (ru_ne (by omega) (ru_ne (by omega) (fr497 q h1)))
  have pa515 : ∀ j, j < 16 → BZ V τ499 (b + 197 + 63 * j) := fun j hj => (Nat.lt_or_ge j 15).elim (fun h => pa513 j h) (fun h => (show 15 = j by omega) ▸ bz500)
  refine m_aast F (j := 15) e_X9_init_127 g506 rfl bz500.1.1 rfl (by decide) (by unfold vp_in; decide) rfl rfl ?_
  refine m_iinc F (v := 16) (lv' := [(1, .int 16), (0, .ref b)]) e_X9_init_128 rfl (by decide) (by decide) rfl ?_
  refine m_goto F e_X9_init_131 ?_
  refine m_iload_n F rfl e_X9_init_109 ?_
  refine m_bipush F (v := 20) (by decide) e_X9_init_110 ?_
  refine m_icmp_ge F e_X9_init_112 (fun q => absurd q (by decide)) (fun _ => ?_)
  refine m_aload_n F rfl e_X9_init_115 ?_
  refine m_get F e_X9_init_116 fl_X9_35 (ru_ne (by omega) g502) rfl ?_
  refine m_iload_n F rfl e_X9_init_119 ?_
  refine m_new F e_X9_init_120 fn_X9_13 (k' := 1205) (z' := 35336) (N' := b + 1206) rfl rfl rfl (Nat.le_of_ble_eq_true rfl) (Nat.le_of_ble_eq_true rfl) ?_
  refine m_dup F rfl e_X9_init_123 ?_
  refine m_callI F e_X9_init_124 (k_Book_init (x_l X) V _ (b + 1205) ru_eq) cb_X2_init ml_X9_15 im_X2_init rfl rfl (rest := [.ref (b + 1205), .int 16, .ref (b + 193)]) rfl (Nat.le_of_ble_eq_true rfl) ⟨Nat.le_of_ble_eq_true rfl, Nat.le_of_ble_eq_true rfl⟩ ⟨Nat.le_of_ble_eq_true rfl, Nat.le_of_ble_eq_true rfl⟩ (k' := 1267) (z' := 37143) (N' := b + 1268) rfl rfl rfl (fun r τ516 hp => ?_)
  obtain ⟨rfl, bz517, hf518⟩ := hp
  have g519 : τ516 b = some (ob 7 [.ref (b + 1), .int 0, .ref (b + 2), .ref (b + 65), .ref (b + 128), .ref (b + 130), .int 0, .ref (b + 193), .int 0, .int 0, .ref (b + 194), .ref (b + 195), .ref (b + 196)]) := (hf518 b (by omega)).trans (ru_ne (by omega) (ru_ne (by omega) g502))
  have g520 : τ516 (b + 1) = some (aB V 700 (fun _ => 0)) := (hf518 (b + 1) (by omega)).trans (ru_ne (by omega) (ru_ne (by omega) g503))
  have g521 : τ516 (b + 128) = some (ob 5 [.ref (b + 1), .int 0, .ref (b + 65), .ref (b + 129), .int 0, .int 0, .int 0, .int 0, .int 0, .int 0, .int 0, .int 0, .int (-1)]) := (hf518 (b + 128) (by omega)).trans (ru_ne (by omega) (ru_ne (by omega) g504))
  have g522 : τ516 (b + 129) = some (aI V 4 (fun _ => 0)) := (hf518 (b + 129) (by omega)).trans (ru_ne (by omega) (ru_ne (by omega) g505))
  have g523 : τ516 (b + 193) = some (aR 6 V 20 (va_up (va_up (va_up (va_up (va_up (va_up (va_up (va_up (va_up (va_up (va_up (va_up (va_up (va_up (va_up (va_up (fun _ => none) 0 (some (b + 197))) 1 (some (b + 260))) 2 (some (b + 323))) 3 (some (b + 386))) 4 (some (b + 449))) 5 (some (b + 512))) 6 (some (b + 575))) 7 (some (b + 638))) 8 (some (b + 701))) 9 (some (b + 764))) 10 (some (b + 827))) 11 (some (b + 890))) 12 (some (b + 953))) 13 (some (b + 1016))) 14 (some (b + 1079))) 15 (some (b + 1142)))) := (hf518 (b + 193) (by omega)).trans (ru_ne (by omega) ru_eq)
  have g524 : τ516 (b + 194) = some (ob 0 [.long 0, .long 0]) := (hf518 (b + 194) (by omega)).trans (ru_ne (by omega) (ru_ne (by omega) g507))
  have g525 : τ516 (b + 195) = some (ob 0 [.long 0, .long 0]) := (hf518 (b + 195) (by omega)).trans (ru_ne (by omega) (ru_ne (by omega) g508))
  have g526 : τ516 (b + 196) = some (ob 0 [.long 0, .long 0]) := (hf518 (b + 196) (by omega)).trans (ru_ne (by omega) (ru_ne (by omega) g509))
  have bz527 : BZ V τ516 (b + 2) := bz510.keep (fun x g1 g2 => (hf518 x (by omega)).trans (ru_ne (by omega) (ru_ne (by omega) rfl)))
  have bz528 : BZ V τ516 (b + 65) := bz511.keep (fun x g1 g2 => (hf518 x (by omega)).trans (ru_ne (by omega) (ru_ne (by omega) rfl)))
  have bz529 : BZ V τ516 (b + 130) := bz512.keep (fun x g1 g2 => (hf518 x (by omega)).trans (ru_ne (by omega) (ru_ne (by omega) rfl)))
  have pa530 : ∀ j, j < 16 → BZ V τ516 (b + 197 + 63 * j) := fun j hj => (pa515 j hj).keep (fun x g1 g2 => (hf518 x (by omega)).trans (ru_ne (by omega) (ru_ne (by omega) rfl)))
  have fr531 : ∀ q : Nat, q < b → τ516 q = σ q := fun q h1 => (hf518 q (by omega)).trans (ru_ne (by omega) (ru_ne (by omega) (fr514 q h1)))
  have pa532 : ∀ j, j < 17 → BZ V τ516 (b + 197 + 63 * j) := fun j hj => (Nat.lt_or_ge j 16).elim (fun h => pa530 j h) (fun h => (show 16 = j by omega) ▸ bz517)
  refine m_aast F (j := 16) e_X9_init_127 g523 rfl bz517.1.1 rfl (by decide) (by unfold vp_in; decide) rfl rfl ?_
  refine m_iinc F (v := 17) (lv' := [(1, .int 17), (0, .ref b)]) e_X9_init_128 rfl (by decide) (by decide) rfl ?_
  refine m_goto F e_X9_init_131 ?_
  refine m_iload_n F rfl e_X9_init_109 ?_
  refine m_bipush F (v := 20) (by decide) e_X9_init_110 ?_
  refine m_icmp_ge F e_X9_init_112 (fun q => absurd q (by decide)) (fun _ => ?_)
  refine m_aload_n F rfl e_X9_init_115 ?_
  refine m_get F e_X9_init_116 fl_X9_35 (ru_ne (by omega) g519) rfl ?_
  refine m_iload_n F rfl e_X9_init_119 ?_
  refine m_new F e_X9_init_120 fn_X9_13 (k' := 1268) (z' := 37156) (N' := b + 1269) rfl rfl rfl (Nat.le_of_ble_eq_true rfl) (Nat.le_of_ble_eq_true rfl) ?_
  refine m_dup F rfl e_X9_init_123 ?_
  refine m_callI F e_X9_init_124 (k_Book_init (x_l X) V _ (b + 1268) ru_eq) cb_X2_init ml_X9_15 im_X2_init rfl rfl (rest := [.ref (b + 1268), .int 17, .ref (b + 193)]) rfl (Nat.le_of_ble_eq_true rfl) ⟨Nat.le_of_ble_eq_true rfl, Nat.le_of_ble_eq_true rfl⟩ ⟨Nat.le_of_ble_eq_true rfl, Nat.le_of_ble_eq_true rfl⟩ (k' := 1330) (z' := 38963) (N' := b + 1331) rfl rfl rfl (fun r τ533 hp => ?_)
  obtain ⟨rfl, bz534, hf535⟩ := hp
  have g536 : τ533 b = some (ob 7 [.ref (b + 1), .int 0, .ref (b + 2), .ref (b + 65), .ref (b + 128), .ref (b + 130), .int 0, .ref (b + 193), .int 0, .int 0, .ref (b + 194), .ref (b + 195), .ref (b + 196)]) := (hf535 b (by omega)).trans (ru_ne (by omega) (ru_ne (by omega) g519))
  have g537 : τ533 (b + 1) = some (aB V 700 (fun _ => 0)) := (hf535 (b + 1) (by omega)).trans (ru_ne (by omega) (ru_ne (by omega) g520))
  have g538 : τ533 (b + 128) = some (ob 5 [.ref (b + 1), .int 0, .ref (b + 65), .ref (b + 129), .int 0, .int 0, .int 0, .int 0, .int 0, .int 0, .int 0, .int 0, .int (-1)]) := (hf535 (b + 128) (by omega)).trans (ru_ne (by omega) (ru_ne (by omega) g521))
  have g539 : τ533 (b + 129) = some (aI V 4 (fun _ => 0)) := (hf535 (b + 129) (by omega)).trans (ru_ne (by omega) (ru_ne (by omega) g522))
  have g540 : τ533 (b + 193) = some (aR 6 V 20 (va_up (va_up (va_up (va_up (va_up (va_up (va_up (va_up (va_up (va_up (va_up (va_up (va_up (va_up (va_up (va_up (va_up (fun _ => none) 0 (some (b + 197))) 1 (some (b + 260))) 2 (some (b + 323))) 3 (some (b + 386))) 4 (some (b + 449))) 5 (some (b + 512))) 6 (some (b + 575))) 7 (some (b + 638))) 8 (some (b + 701))) 9 (some (b + 764))) 10 (some (b + 827))) 11 (some (b + 890))) 12 (some (b + 953))) 13 (some (b + 1016))) 14 (some (b + 1079))) 15 (some (b + 1142))) 16 (some (b + 1205)))) := (hf535 (b + 193) (by omega)).trans (ru_ne (by omega) ru_eq)
  have g541 : τ533 (b + 194) = some (ob 0 [.long 0, .long 0]) := (hf535 (b + 194) (by omega)).trans (ru_ne (by omega) (ru_ne (by omega) g524))
  have g542 : τ533 (b + 195) = some (ob 0 [.long 0, .long 0]) := (hf535 (b + 195) (by omega)).trans (ru_ne (by omega) (ru_ne (by omega) g525))
  have g543 : τ533 (b + 196) = some (ob 0 [.long 0, .long 0]) := (hf535 (b + 196) (by omega)).trans (ru_ne (by omega) (ru_ne (by omega) g526))
  have bz544 : BZ V τ533 (b + 2) := bz527.keep (fun x g1 g2 => (hf535 x (by omega)).trans (ru_ne (by omega) (ru_ne (by omega) rfl)))
  have bz545 : BZ V τ533 (b + 65) := bz528.keep (fun x g1 g2 => (hf535 x (by omega)).trans (ru_ne (by omega) (ru_ne (by omega) rfl)))
  have bz546 : BZ V τ533 (b + 130) := bz529.keep (fun x g1 g2 => (hf535 x (by omega)).trans (ru_ne (by omega) (ru_ne (by omega) rfl)))
  have pa547 : ∀ j, j < 17 → BZ V τ533 (b + 197 + 63 * j) := fun j hj => (pa532 j hj).keep (fun x g1 g2 => (hf535 x (by omega)).trans (ru_ne (by omega) (ru_ne (by omega) rfl)))
  have fr548 : ∀ q : Nat, q < b → τ533 q = σ q := fun q h1 => (hf535 q (by omega)).trans (ru_ne (by omega) (ru_ne (by omega) (fr531 q h1)))
  have pa549 : ∀ j, j < 18 → BZ V τ533 (b + 197 + 63 * j) := fun j hj => (Nat.lt_or_ge j 17).elim (fun h => pa547 j h) (fun h => (show 17 = j by omega) ▸ bz534)
  refine m_aast F (j := 17) e_X9_init_127 g540 rfl bz534.1.1 rfl (by decide) (by unfold vp_in; decide) rfl rfl ?_
  refine m_iinc F (v := 18) (lv' := [(1, .int 18), (0, .ref b)]) e_X9_init_128 rfl (by decide) (by decide) rfl ?_
  refine m_goto F e_X9_init_131 ?_
  refine m_iload_n F rfl e_X9_init_109 ?_
  refine m_bipush F (v := 20) (by decide) e_X9_init_110 ?_
  refine m_icmp_ge F e_X9_init_112 (fun q => absurd q (by decide)) (fun _ => ?_)
  refine m_aload_n F rfl e_X9_init_115 ?_
  refine m_get F e_X9_init_116 fl_X9_35 (ru_ne (by omega) g536) rfl ?_
  refine m_iload_n F rfl e_X9_init_119 ?_
  refine m_new F e_X9_init_120 fn_X9_13 (k' := 1331) (z' := 38976) (N' := b + 1332) rfl rfl rfl (Nat.le_of_ble_eq_true rfl) (Nat.le_of_ble_eq_true rfl) ?_
  refine m_dup F rfl e_X9_init_123 ?_
  refine m_callI F e_X9_init_124 (k_Book_init (x_l X) V _ (b + 1331) ru_eq) cb_X2_init ml_X9_15 im_X2_init rfl rfl (rest := [.ref (b + 1331), .int 18, .ref (b + 193)]) rfl (Nat.le_of_ble_eq_true rfl) ⟨Nat.le_of_ble_eq_true rfl, Nat.le_of_ble_eq_true rfl⟩ ⟨Nat.le_of_ble_eq_true rfl, Nat.le_of_ble_eq_true rfl⟩ (k' := 1393) (z' := 40783) (N' := b + 1394) rfl rfl rfl (fun r τ550 hp => ?_)
  obtain ⟨rfl, bz551, hf552⟩ := hp
  have g553 : τ550 b = some (ob 7 [.ref (b + 1), .int 0, .ref (b + 2), .ref (b + 65), .ref (b + 128), .ref (b + 130), .int 0, .ref (b + 193), .int 0, .int 0, .ref (b + 194), .ref (b + 195), .ref (b + 196)]) := (hf552 b (by omega)).trans (ru_ne (by omega) (ru_ne (by omega) g536))
  have g554 : τ550 (b + 1) = some (aB V 700 (fun _ => 0)) := (hf552 (b + 1) (by omega)).trans (ru_ne (by omega) (ru_ne (by omega) g537))
  have g555 : τ550 (b + 128) = some (ob 5 [.ref (b + 1), .int 0, .ref (b + 65), .ref (b + 129), .int 0, .int 0, .int 0, .int 0, .int 0, .int 0, .int 0, .int 0, .int (-1)]) := (hf552 (b + 128) (by omega)).trans (ru_ne (by omega) (ru_ne (by omega) g538))
  have g556 : τ550 (b + 129) = some (aI V 4 (fun _ => 0)) := (hf552 (b + 129) (by omega)).trans (ru_ne (by omega) (ru_ne (by omega) g539))
  have g557 : τ550 (b + 193) = some (aR 6 V 20 (va_up (va_up (va_up (va_up (va_up (va_up (va_up (va_up (va_up (va_up (va_up (va_up (va_up (va_up (va_up (va_up (va_up (va_up (fun _ => none) 0 (some (b + 197))) 1 (some (b + 260))) 2 (some (b + 323))) 3 (some (b + 386))) 4 (some (b + 449))) 5 (some (b + 512))) 6 (some (b + 575))) 7 (some (b + 638))) 8 (some (b + 701))) 9 (some (b + 764))) 10 (some (b + 827))) 11 (some (b + 890))) 12 (some (b + 953))) 13 (some (b + 1016))) 14 (some (b + 1079))) 15 (some (b + 1142))) 16 (some (b + 1205))) 17 (some (b + 1268)))) := (hf552 (b + 193) (by omega)).trans (ru_ne (by omega) ru_eq)
  have g558 : τ550 (b + 194) = some (ob 0 [.long 0, .long 0]) := (hf552 (b + 194) (by omega)).trans (ru_ne (by omega) (ru_ne (by omega) g541))
  have g559 : τ550 (b + 195) = some (ob 0 [.long 0, .long 0]) := (hf552 (b + 195) (by omega)).trans (ru_ne (by omega) (ru_ne (by omega) g542))
  have g560 : τ550 (b + 196) = some (ob 0 [.long 0, .long 0]) := (hf552 (b + 196) (by omega)).trans (ru_ne (by omega) (ru_ne (by omega) g543))
  have bz561 : BZ V τ550 (b + 2) := bz544.keep (fun x g1 g2 => (hf552 x (by omega)).trans (ru_ne (by omega) (ru_ne (by omega) rfl)))
  have bz562 : BZ V τ550 (b + 65) := bz545.keep (fun x g1 g2 => (hf552 x (by omega)).trans (ru_ne (by omega) (ru_ne (by omega) rfl)))
  have bz563 : BZ V τ550 (b + 130) := bz546.keep (fun x g1 g2 => (hf552 x (by omega)).trans (ru_ne (by omega) (ru_ne (by omega) rfl)))
  have pa564 : ∀ j, j < 18 → BZ V τ550 (b + 197 + 63 * j) := fun j hj => (pa549 j hj).keep (fun x g1 g2 => (hf552 x (by omega)).trans (ru_ne (by omega) (ru_ne (by omega) rfl)))
  have fr565 : ∀ q : Nat, q < b → τ550 q = σ q := fun q h1 => (hf552 q (by omega)).trans (ru_ne (by omega) (ru_ne (by omega) (fr548 q h1)))
  have pa566 : ∀ j, j < 19 → BZ V τ550 (b + 197 + 63 * j) := fun j hj => (Nat.lt_or_ge j 18).elim (fun h => pa564 j h) (fun h => (show 18 = j by omega) ▸ bz551)
  refine m_aast F (j := 18) e_X9_init_127 g557 rfl bz551.1.1 rfl (by decide) (by unfold vp_in; decide) rfl rfl ?_
  refine m_iinc F (v := 19) (lv' := [(1, .int 19), (0, .ref b)]) e_X9_init_128 rfl (by decide) (by decide) rfl ?_
  refine m_goto F e_X9_init_131 ?_
  refine m_iload_n F rfl e_X9_init_109 ?_
  refine m_bipush F (v := 20) (by decide) e_X9_init_110 ?_
  refine m_icmp_ge F e_X9_init_112 (fun q => absurd q (by decide)) (fun _ => ?_)
  refine m_aload_n F rfl e_X9_init_115 ?_
  refine m_get F e_X9_init_116 fl_X9_35 (ru_ne (by omega) g553) rfl ?_
  refine m_iload_n F rfl e_X9_init_119 ?_
  refine m_new F e_X9_init_120 fn_X9_13 (k' := 1394) (z' := 40796) (N' := b + 1395) rfl rfl rfl (Nat.le_of_ble_eq_true rfl) (Nat.le_of_ble_eq_true rfl) ?_
  refine m_dup F rfl e_X9_init_123 ?_
  refine m_callI F e_X9_init_124 (k_Book_init (x_l X) V _ (b + 1394) ru_eq) cb_X2_init ml_X9_15 im_X2_init rfl rfl (rest := [.ref (b + 1394), .int 19, .ref (b + 193)]) rfl (Nat.le_of_ble_eq_true rfl) ⟨Nat.le_of_ble_eq_true rfl, Nat.le_of_ble_eq_true rfl⟩ ⟨Nat.le_of_ble_eq_true rfl, Nat.le_of_ble_eq_true rfl⟩ (k' := 1456) (z' := 42603) (N' := b + 1457) rfl rfl rfl (fun r τ567 hp => ?_)
  obtain ⟨rfl, bz568, hf569⟩ := hp
  have g570 : τ567 b = some (ob 7 [.ref (b + 1), .int 0, .ref (b + 2), .ref (b + 65), .ref (b + 128), .ref (b + 130), .int 0, .ref (b + 193), .int 0, .int 0, .ref (b + 194), .ref (b + 195), .ref (b + 196)]) := (hf569 b (by omega)).trans (ru_ne (by omega) (ru_ne (by omega) g553))
  have g571 : τ567 (b + 1) = some (aB V 700 (fun _ => 0)) := (hf569 (b + 1) (by omega)).trans (ru_ne (by omega) (ru_ne (by omega) g554))
  have g572 : τ567 (b + 128) = some (ob 5 [.ref (b + 1), .int 0, .ref (b + 65), .ref (b + 129), .int 0, .int 0, .int 0, .int 0, .int 0, .int 0, .int 0, .int 0, .int (-1)]) := (hf569 (b + 128) (by omega)).trans (ru_ne (by omega) (ru_ne (by omega) g555))
  have g573 : τ567 (b + 129) = some (aI V 4 (fun _ => 0)) := (hf569 (b + 129) (by omega)).trans (ru_ne (by omega) (ru_ne (by omega) g556))
  have g574 : τ567 (b + 193) = some (aR 6 V 20 (va_up (va_up (va_up (va_up (va_up (va_up (va_up (va_up (va_up (va_up (va_up (va_up (va_up (va_up (va_up (va_up (va_up (va_up (va_up (fun _ => none) 0 (some (b + 197))) 1 (some (b + 260))) 2 (some (b + 323))) 3 (some (b + 386))) 4 (some (b + 449))) 5 (some (b + 512))) 6 (some (b + 575))) 7 (some (b + 638))) 8 (some (b + 701))) 9 (some (b + 764))) 10 (some (b + 827))) 11 (some (b + 890))) 12 (some (b + 953))) 13 (some (b + 1016))) 14 (some (b + 1079))) 15 (some (b + 1142))) 16 (some (b + 1205))) 17 (some (b + 1268))) 18 (some (b + 1331)))) := (hf569 (b + 193) (by omega)).trans (ru_ne (by omega) ru_eq)
  have g575 : τ567 (b + 194) = some (ob 0 [.long 0, .long 0]) := (hf569 (b + 194) (by omega)).trans (ru_ne (by omega) (ru_ne (by omega) g558))
  have g576 : τ567 (b + 195) = some (ob 0 [.long 0, .long 0]) := (hf569 (b + 195) (by omega)).trans (ru_ne (by omega) (ru_ne (by omega) g559))
  have g577 : τ567 (b + 196) = some (ob 0 [.long 0, .long 0]) := (hf569 (b + 196) (by omega)).trans (ru_ne (by omega) (ru_ne (by omega) g560))
  have bz578 : BZ V τ567 (b + 2) := bz561.keep (fun x g1 g2 => (hf569 x (by omega)).trans (ru_ne (by omega) (ru_ne (by omega) rfl)))
  have bz579 : BZ V τ567 (b + 65) := bz562.keep (fun x g1 g2 => (hf569 x (by omega)).trans (ru_ne (by omega) (ru_ne (by omega) rfl)))
  have bz580 : BZ V τ567 (b + 130) := bz563.keep (fun x g1 g2 => (hf569 x (by omega)).trans (ru_ne (by omega) (ru_ne (by omega) rfl)))
  have pa581 : ∀ j, j < 19 → BZ V τ567 (b + 197 + 63 * j) := fun j hj => (pa566 j hj).keep (fun x g1 g2 => (hf569 x (by omega)).trans (ru_ne (by omega) (ru_ne (by omega) rfl)))
  have fr582 : ∀ q : Nat, q < b → τ567 q = σ q := fun q h1 => (hf569 q (by omega)).trans (ru_ne (by omega) (ru_ne (by omega) (fr565 q h1)))
  have pa583 : ∀ j, j < 20 → BZ V τ567 (b + 197 + 63 * j) := fun j hj => (Nat.lt_or_ge j 19).elim (fun h => pa581 j h) (fun h => (show 19 = j by omega) ▸ bz568)
  refine m_aast F (j := 19) e_X9_init_127 g574 rfl bz568.1.1 rfl (by decide) (by unfold vp_in; decide) rfl rfl ?_
  refine m_iinc F (v := 20) (lv' := [(1, .int 20), (0, .ref b)]) e_X9_init_128 rfl (by decide) (by decide) rfl ?_
  refine m_goto F e_X9_init_131 ?_
  refine m_iload_n F rfl e_X9_init_109 ?_
  refine m_bipush F (v := 20) (by decide) e_X9_init_110 ?_
  refine m_icmp_ge F e_X9_init_112 (fun _ => ?_) (fun q => absurd (by decide) q)
  refine reR (pf_eq b) ?_
  have pall : ∀ j, j < 20 → BZ V (va_up τ567 (b + 193) (some (aR 6 V 20 (pfB b)))) (b + 197 + 63 * j) := fun j hj => (pa583 j hj).keep (fun x g1 g2 => (ru_ne (by omega) rfl))
  exact m_vret F hQ e_X9_init_134 (⟨rfl, ⟨(ru_ne (by omega) g570), (ru_ne (by omega) g571), (ru_ne (by omega) g572), (ru_ne (by omega) g573), ru_eq, (ru_ne (by omega) g575), (ru_ne (by omega) g576), (ru_ne (by omega) g577), (bz578.keep (fun x g1 g2 => (ru_ne (by omega) rfl))), (bz579.keep (fun x g1 g2 => (ru_ne (by omega) rfl))), (bz580.keep (fun x g1 g2 => (ru_ne (by omega) rfl))), pall⟩, fun q h1 => (ru_ne (by omega) (fr582 q h1))⟩)
end
section
theorem upd_c {c : Int32} {j : Nat} : upd (fun _ => c) j c = (fun _ => c) := by
  funext q; simp [upd]
theorem updL_c {c : Int64} {j : Nat} : vp_updL (fun _ => c) j c = (fun _ => c) := by
  funext q; simp [vp_updL]
def sZ : Nat → Int64 := fillJ (fun _ => 0) 1000 644 744
theorem e_X10_leases_0 : DC cX10_leases 0 1 1 (.aload_n 0) := ⟨by decide +kernel, rfl⟩
theorem e_X10_leases_1 : DC cX10_leases 1 3 4 (.getfield 13) := ⟨by decide +kernel, rfl⟩
theorem uw_8 : ∀ w ∈ u_ws RX10 TX10 37, w ∈ tb := tb_all [1497, 1499, 1501, 1503, 1505, 1507, 1509, 1511, 1513, 1515, 1517, 1519, 1521, 1523, 1525, 1527, 1529, 1531, 1533, 1535, 1537, 1539, 1541, 1543, 1545, 1547, 1549, 1551, 1553, 1555, 1557, 1559, 1561, 1563, 1565, 1567, 1569] (by decide +kernel) (by decide +kernel)
theorem fl_X10_13 : FL RX10 13 8 3 := ⟨RX10, TX10, 37, rfl, by decide, uw_8, tb_in 1463 (by decide +kernel) (by decide +kernel), rfl⟩
theorem e_X10_leases_4 : DC cX10_leases 4 1 5 (.iconst 0) := ⟨by decide +kernel, rfl⟩
theorem e_X10_leases_5 : DC cX10_leases 5 1 6 (.iaload) := ⟨by decide +kernel, rfl⟩
theorem e_X10_leases_6 : DC cX10_leases 6 1 7 (.ireturn) := ⟨by decide +kernel, rfl⟩
theorem e_X10_reading_0 : DC cX10_reading 0 1 1 (.aload_n 0) := ⟨by decide +kernel, rfl⟩
theorem e_X10_reading_1 : DC cX10_reading 1 3 4 (.getfield 13) := ⟨by decide +kernel, rfl⟩
theorem e_X10_reading_4 : DC cX10_reading 4 1 5 (.iconst 5) := ⟨by decide +kernel, rfl⟩
theorem e_X10_reading_5 : DC cX10_reading 5 1 6 (.iload_n 1) := ⟨by decide +kernel, rfl⟩
theorem e_X10_reading_6 : DC cX10_reading 6 1 7 (.iadd) := ⟨by decide +kernel, rfl⟩
theorem e_X10_reading_7 : DC cX10_reading 7 1 8 (.iaload) := ⟨by decide +kernel, rfl⟩
theorem e_X10_reading_8 : DC cX10_reading 8 1 9 (.ireturn) := ⟨by decide +kernel, rfl⟩
theorem e_X10_reads_0 : DC cX10_reads 0 1 1 (.aload_n 0) := ⟨by decide +kernel, rfl⟩
theorem e_X10_reads_1 : DC cX10_reads 1 3 4 (.getfield 13) := ⟨by decide +kernel, rfl⟩
theorem e_X10_reads_4 : DC cX10_reads 4 1 5 (.iconst 5) := ⟨by decide +kernel, rfl⟩
theorem e_X10_reads_5 : DC cX10_reads 5 1 6 (.iload_n 1) := ⟨by decide +kernel, rfl⟩
theorem e_X10_reads_6 : DC cX10_reads 6 1 7 (.iadd) := ⟨by decide +kernel, rfl⟩
theorem e_X10_reads_7 : DC cX10_reads 7 1 8 (.iload_n 2) := ⟨by decide +kernel, rfl⟩
theorem e_X10_reads_8 : DC cX10_reads 8 1 9 (.iastore) := ⟨by decide +kernel, rfl⟩
theorem e_X10_reads_9 : DC cX10_reads 9 1 10 (.return_) := ⟨by decide +kernel, rfl⟩
theorem e_X10_freshText_0 : DC cX10_freshText 0 1 1 (.iconst 0) := ⟨by decide +kernel, rfl⟩
theorem e_X10_freshText_1 : DC cX10_freshText 1 1 2 (.istore_n 1) := ⟨by decide +kernel, rfl⟩
theorem e_X10_freshText_2 : DC cX10_freshText 2 1 3 (.iload_n 1) := ⟨by decide +kernel, rfl⟩
theorem e_X10_freshText_3 : DC cX10_freshText 3 1 4 (.iconst 5) := ⟨by decide +kernel, rfl⟩
theorem e_X10_freshText_4 : DJ cX10_freshText 4 19 7 (.if_icmp .ge) := DJ.mk 15 (by decide +kernel) (by decide) rfl
theorem e_X10_freshText_7 : DC cX10_freshText 7 1 8 (.aload_n 0) := ⟨by decide +kernel, rfl⟩
theorem e_X10_freshText_8 : DC cX10_freshText 8 1 9 (.iload_n 1) := ⟨by decide +kernel, rfl⟩
theorem e_X10_freshText_9 : DC cX10_freshText 9 1 10 (.iconst 0) := ⟨by decide +kernel, rfl⟩
theorem e_X10_freshText_10 : DC cX10_freshText 10 3 13 (.invokevirtual 170) := ⟨by decide +kernel, rfl⟩
theorem cb_X10_reads : CB yX10_reads cX10_reads 3 none 2 := ⟨tb_in 1423 (by decide +kernel) (by decide +kernel), tb_in 10 (by decide +kernel) (by decide +kernel), by decide +kernel⟩
theorem ml_X10_170 : Cond.methodLink RX10 170 yX10_reads ∈ tb := tb_in 1420 (by decide +kernel) (by decide +kernel)
theorem im_X10_reads : Cond.instanceMethod yX10_reads ∈ tb := tb_in 1422 (by decide +kernel) (by decide +kernel)
theorem se_X10_reads : Cond.selects (yX10_reads).cls yX10_reads yX10_reads ∈ tb := tb_sel 9 (by decide +kernel) (by decide +kernel)
theorem e_X10_freshText_13 : DC cX10_freshText 13 3 16 (.iinc 1 1) := ⟨by decide +kernel, rfl⟩
theorem e_X10_freshText_16 : DJ cX10_freshText 16 2 19 .goto := DJ.mk (-14) (by decide +kernel) (by decide) rfl
theorem e_X10_freshText_19 : DC cX10_freshText 19 1 20 (.return_) := ⟨by decide +kernel, rfl⟩
theorem e_X10_takeText_179 : DC cX10_takeText 179 1 180 (.iload_n 1) := ⟨by decide +kernel, rfl⟩
theorem e_X10_takeText_180 : DC cX10_takeText 180 3 183 (.sipush 192) := ⟨by decide +kernel, rfl⟩
theorem e_X10_takeText_183 : DJ cX10_takeText 183 208 186 (.if_icmp .ge) := DJ.mk 25 (by decide +kernel) (by decide) rfl
theorem e_X10_takeText_208 : DC cX10_takeText 208 1 209 (.iconst 0) := ⟨by decide +kernel, rfl⟩
theorem e_X10_takeText_209 : DC cX10_takeText 209 1 210 (.istore_n 1) := ⟨by decide +kernel, rfl⟩
theorem e_X10_takeText_210 : DC cX10_takeText 210 1 211 (.iload_n 1) := ⟨by decide +kernel, rfl⟩
theorem e_X10_takeText_211 : DC cX10_takeText 211 2 213 (.bipush 8) := ⟨by decide +kernel, rfl⟩
theorem e_X10_takeText_213 : DJ cX10_takeText 213 252 216 (.if_icmp .ge) := DJ.mk 39 (by decide +kernel) (by decide) rfl
theorem e_X10_takeText_216 : DC cX10_takeText 216 1 217 (.aload_n 0) := ⟨by decide +kernel, rfl⟩
theorem e_X10_takeText_217 : DC cX10_takeText 217 3 220 (.getfield 40) := ⟨by decide +kernel, rfl⟩
theorem fl_X10_40 : FL RX10 40 8 12 := ⟨RX10, TX10, 37, rfl, by decide, uw_8, tb_in 1472 (by decide +kernel) (by decide +kernel), rfl⟩
theorem e_X10_takeText_220 : DC cX10_takeText 220 1 221 (.iload_n 1) := ⟨by decide +kernel, rfl⟩
theorem e_X10_takeText_221 : DC cX10_takeText 221 1 222 (.aload_n 0) := ⟨by decide +kernel, rfl⟩
theorem e_X10_takeText_222 : DC cX10_takeText 222 3 225 (.getfield 40) := ⟨by decide +kernel, rfl⟩
theorem e_X10_takeText_225 : DC cX10_takeText 225 2 227 (.bipush 8) := ⟨by decide +kernel, rfl⟩
theorem e_X10_takeText_227 : DC cX10_takeText 227 1 228 (.iload_n 1) := ⟨by decide +kernel, rfl⟩
theorem e_X10_takeText_228 : DC cX10_takeText 228 1 229 (.iadd) := ⟨by decide +kernel, rfl⟩
theorem e_X10_takeText_229 : DC cX10_takeText 229 1 230 (.iaload) := ⟨by decide +kernel, rfl⟩
theorem e_X10_takeText_230 : DC cX10_takeText 230 1 231 (.iastore) := ⟨by decide +kernel, rfl⟩
theorem e_X10_takeText_231 : DC cX10_takeText 231 1 232 (.aload_n 0) := ⟨by decide +kernel, rfl⟩
theorem e_X10_takeText_232 : DC cX10_takeText 232 3 235 (.getfield 43) := ⟨by decide +kernel, rfl⟩
theorem fl_X10_43 : FL RX10 43 8 13 := ⟨RX10, TX10, 37, rfl, by decide, uw_8, tb_in 1473 (by decide +kernel) (by decide +kernel), rfl⟩
theorem e_X10_takeText_235 : DC cX10_takeText 235 1 236 (.iload_n 1) := ⟨by decide +kernel, rfl⟩
theorem e_X10_takeText_236 : DC cX10_takeText 236 1 237 (.aload_n 0) := ⟨by decide +kernel, rfl⟩
theorem e_X10_takeText_237 : DC cX10_takeText 237 3 240 (.getfield 43) := ⟨by decide +kernel, rfl⟩
theorem e_X10_takeText_240 : DC cX10_takeText 240 2 242 (.bipush 8) := ⟨by decide +kernel, rfl⟩
theorem e_X10_takeText_242 : DC cX10_takeText 242 1 243 (.iload_n 1) := ⟨by decide +kernel, rfl⟩
theorem e_X10_takeText_243 : DC cX10_takeText 243 1 244 (.iadd) := ⟨by decide +kernel, rfl⟩
theorem e_X10_takeText_244 : DC cX10_takeText 244 1 245 (.iaload) := ⟨by decide +kernel, rfl⟩
theorem e_X10_takeText_245 : DC cX10_takeText 245 1 246 (.iastore) := ⟨by decide +kernel, rfl⟩
theorem e_X10_takeText_246 : DC cX10_takeText 246 3 249 (.iinc 1 1) := ⟨by decide +kernel, rfl⟩
theorem e_X10_takeText_249 : DJ cX10_takeText 249 210 252 .goto := DJ.mk (-39) (by decide +kernel) (by decide) rfl
theorem e_X10_takeText_252 : DC cX10_takeText 252 1 253 (.return_) := ⟨by decide +kernel, rfl⟩
theorem e_X10_takeText_186 : DC cX10_takeText 186 1 187 (.aload_n 0) := ⟨by decide +kernel, rfl⟩
theorem e_X10_takeText_187 : DC cX10_takeText 187 3 190 (.getfield 37) := ⟨by decide +kernel, rfl⟩
theorem fl_X10_37 : FL RX10 37 8 11 := ⟨RX10, TX10, 37, rfl, by decide, uw_8, tb_in 1471 (by decide +kernel) (by decide +kernel), rfl⟩
theorem e_X10_takeText_190 : DC cX10_takeText 190 1 191 (.iload_n 1) := ⟨by decide +kernel, rfl⟩
theorem e_X10_takeText_191 : DC cX10_takeText 191 1 192 (.aload_n 0) := ⟨by decide +kernel, rfl⟩
theorem e_X10_takeText_192 : DC cX10_takeText 192 3 195 (.getfield 37) := ⟨by decide +kernel, rfl⟩
theorem e_X10_takeText_195 : DC cX10_takeText 195 3 198 (.sipush 192) := ⟨by decide +kernel, rfl⟩
theorem e_X10_takeText_198 : DC cX10_takeText 198 1 199 (.iload_n 1) := ⟨by decide +kernel, rfl⟩
theorem e_X10_takeText_199 : DC cX10_takeText 199 1 200 (.iadd) := ⟨by decide +kernel, rfl⟩
theorem e_X10_takeText_200 : DC cX10_takeText 200 1 201 (.iaload) := ⟨by decide +kernel, rfl⟩
theorem e_X10_takeText_201 : DC cX10_takeText 201 1 202 (.iastore) := ⟨by decide +kernel, rfl⟩
theorem e_X10_takeText_202 : DC cX10_takeText 202 3 205 (.iinc 1 1) := ⟨by decide +kernel, rfl⟩
theorem e_X10_takeText_205 : DJ cX10_takeText 205 179 208 .goto := DJ.mk (-26) (by decide +kernel) (by decide) rfl
theorem e_X10_takeText_0 : DC cX10_takeText 0 1 1 (.iconst 0) := ⟨by decide +kernel, rfl⟩
theorem e_X10_takeText_1 : DC cX10_takeText 1 1 2 (.istore_n 1) := ⟨by decide +kernel, rfl⟩
theorem e_X10_takeText_2 : DC cX10_takeText 2 1 3 (.iload_n 1) := ⟨by decide +kernel, rfl⟩
theorem e_X10_takeText_3 : DC cX10_takeText 3 1 4 (.iconst 5) := ⟨by decide +kernel, rfl⟩
theorem e_X10_takeText_4 : DJ cX10_takeText 4 24 7 (.if_icmp .ge) := DJ.mk 20 (by decide +kernel) (by decide) rfl
theorem e_X10_takeText_7 : DC cX10_takeText 7 1 8 (.aload_n 0) := ⟨by decide +kernel, rfl⟩
theorem e_X10_takeText_8 : DC cX10_takeText 8 3 11 (.getfield 13) := ⟨by decide +kernel, rfl⟩
theorem e_X10_takeText_11 : DC cX10_takeText 11 1 12 (.iload_n 1) := ⟨by decide +kernel, rfl⟩
theorem e_X10_takeText_12 : DC cX10_takeText 12 1 13 (.aload_n 0) := ⟨by decide +kernel, rfl⟩
theorem e_X10_takeText_13 : DC cX10_takeText 13 1 14 (.iload_n 1) := ⟨by decide +kernel, rfl⟩
theorem e_X10_takeText_14 : DC cX10_takeText 14 3 17 (.invokevirtual 157) := ⟨by decide +kernel, rfl⟩
theorem cb_X10_reading : CB yX10_reading cX10_reading 2 (some .int) 1 := ⟨tb_in 1431 (by decide +kernel) (by decide +kernel), tb_in 10 (by decide +kernel) (by decide +kernel), by decide +kernel⟩
theorem ml_X10_157 : Cond.methodLink RX10 157 yX10_reading ∈ tb := tb_in 1428 (by decide +kernel) (by decide +kernel)
theorem im_X10_reading : Cond.instanceMethod yX10_reading ∈ tb := tb_in 1430 (by decide +kernel) (by decide +kernel)
theorem se_X10_reading : Cond.selects (yX10_reading).cls yX10_reading yX10_reading ∈ tb := tb_sel 11 (by decide +kernel) (by decide +kernel)
theorem e_X10_takeText_17 : DC cX10_takeText 17 1 18 (.iastore) := ⟨by decide +kernel, rfl⟩
theorem e_X10_takeText_18 : DC cX10_takeText 18 3 21 (.iinc 1 1) := ⟨by decide +kernel, rfl⟩
theorem e_X10_takeText_21 : DJ cX10_takeText 21 2 24 .goto := DJ.mk (-19) (by decide +kernel) (by decide) rfl
theorem e_X10_takeText_24 : DC cX10_takeText 24 1 25 (.iconst 0) := ⟨by decide +kernel, rfl⟩
theorem e_X10_takeText_25 : DC cX10_takeText 25 1 26 (.istore_n 1) := ⟨by decide +kernel, rfl⟩
theorem e_X10_takeText_26 : DC cX10_takeText 26 1 27 (.iload_n 1) := ⟨by decide +kernel, rfl⟩
theorem e_X10_takeText_27 : DC cX10_takeText 27 1 28 (.iconst 4) := ⟨by decide +kernel, rfl⟩
theorem e_X10_takeText_28 : DJ cX10_takeText 28 177 31 (.if_icmp .ge) := DJ.mk 149 (by decide +kernel) (by decide) rfl
theorem e_X10_takeText_31 : DC cX10_takeText 31 1 32 (.aload_n 0) := ⟨by decide +kernel, rfl⟩
theorem e_X10_takeText_32 : DC cX10_takeText 32 3 35 (.getfield 16) := ⟨by decide +kernel, rfl⟩
theorem fl_X10_16 : FL RX10 16 8 4 := ⟨RX10, TX10, 37, rfl, by decide, uw_8, tb_in 1464 (by decide +kernel) (by decide +kernel), rfl⟩
theorem e_X10_takeText_35 : DC cX10_takeText 35 1 36 (.iload_n 1) := ⟨by decide +kernel, rfl⟩
theorem e_X10_takeText_36 : DC cX10_takeText 36 1 37 (.aload_n 0) := ⟨by decide +kernel, rfl⟩
theorem e_X10_takeText_37 : DC cX10_takeText 37 3 40 (.getfield 16) := ⟨by decide +kernel, rfl⟩
theorem e_X10_takeText_40 : DC cX10_takeText 40 1 41 (.iconst 4) := ⟨by decide +kernel, rfl⟩
theorem e_X10_takeText_41 : DC cX10_takeText 41 1 42 (.iload_n 1) := ⟨by decide +kernel, rfl⟩
theorem e_X10_takeText_42 : DC cX10_takeText 42 1 43 (.iadd) := ⟨by decide +kernel, rfl⟩
theorem e_X10_takeText_43 : DC cX10_takeText 43 1 44 (.iaload) := ⟨by decide +kernel, rfl⟩
theorem e_X10_takeText_44 : DC cX10_takeText 44 1 45 (.iastore) := ⟨by decide +kernel, rfl⟩
theorem e_X10_takeText_45 : DC cX10_takeText 45 1 46 (.aload_n 0) := ⟨by decide +kernel, rfl⟩
theorem e_X10_takeText_46 : DC cX10_takeText 46 3 49 (.getfield 19) := ⟨by decide +kernel, rfl⟩
theorem fl_X10_19 : FL RX10 19 8 5 := ⟨RX10, TX10, 37, rfl, by decide, uw_8, tb_in 1465 (by decide +kernel) (by decide +kernel), rfl⟩
theorem e_X10_takeText_49 : DC cX10_takeText 49 1 50 (.iload_n 1) := ⟨by decide +kernel, rfl⟩
theorem e_X10_takeText_50 : DC cX10_takeText 50 1 51 (.aload_n 0) := ⟨by decide +kernel, rfl⟩
theorem e_X10_takeText_51 : DC cX10_takeText 51 3 54 (.getfield 19) := ⟨by decide +kernel, rfl⟩
theorem e_X10_takeText_54 : DC cX10_takeText 54 1 55 (.iconst 4) := ⟨by decide +kernel, rfl⟩
theorem e_X10_takeText_55 : DC cX10_takeText 55 1 56 (.iload_n 1) := ⟨by decide +kernel, rfl⟩
theorem e_X10_takeText_56 : DC cX10_takeText 56 1 57 (.iadd) := ⟨by decide +kernel, rfl⟩
theorem e_X10_takeText_57 : DC cX10_takeText 57 1 58 (.iaload) := ⟨by decide +kernel, rfl⟩
theorem e_X10_takeText_58 : DC cX10_takeText 58 1 59 (.iastore) := ⟨by decide +kernel, rfl⟩
theorem e_X10_takeText_59 : DC cX10_takeText 59 1 60 (.aload_n 0) := ⟨by decide +kernel, rfl⟩
theorem e_X10_takeText_60 : DC cX10_takeText 60 3 63 (.getfield 22) := ⟨by decide +kernel, rfl⟩
theorem fl_X10_22 : FL RX10 22 8 6 := ⟨RX10, TX10, 37, rfl, by decide, uw_8, tb_in 1466 (by decide +kernel) (by decide +kernel), rfl⟩
theorem e_X10_takeText_63 : DC cX10_takeText 63 1 64 (.iload_n 1) := ⟨by decide +kernel, rfl⟩
theorem e_X10_takeText_64 : DC cX10_takeText 64 1 65 (.aload_n 0) := ⟨by decide +kernel, rfl⟩
theorem e_X10_takeText_65 : DC cX10_takeText 65 3 68 (.getfield 22) := ⟨by decide +kernel, rfl⟩
theorem e_X10_takeText_68 : DC cX10_takeText 68 1 69 (.iconst 4) := ⟨by decide +kernel, rfl⟩
theorem e_X10_takeText_69 : DC cX10_takeText 69 1 70 (.iload_n 1) := ⟨by decide +kernel, rfl⟩
theorem e_X10_takeText_70 : DC cX10_takeText 70 1 71 (.iadd) := ⟨by decide +kernel, rfl⟩
theorem e_X10_takeText_71 : DC cX10_takeText 71 1 72 (.iaload) := ⟨by decide +kernel, rfl⟩
theorem e_X10_takeText_72 : DC cX10_takeText 72 1 73 (.iastore) := ⟨by decide +kernel, rfl⟩
theorem e_X10_takeText_73 : DC cX10_takeText 73 1 74 (.aload_n 0) := ⟨by decide +kernel, rfl⟩
theorem e_X10_takeText_74 : DC cX10_takeText 74 3 77 (.getfield 25) := ⟨by decide +kernel, rfl⟩
theorem fl_X10_25 : FL RX10 25 8 7 := ⟨RX10, TX10, 37, rfl, by decide, uw_8, tb_in 1467 (by decide +kernel) (by decide +kernel), rfl⟩
theorem e_X10_takeText_77 : DC cX10_takeText 77 1 78 (.iload_n 1) := ⟨by decide +kernel, rfl⟩
theorem e_X10_takeText_78 : DC cX10_takeText 78 1 79 (.aload_n 0) := ⟨by decide +kernel, rfl⟩
theorem e_X10_takeText_79 : DC cX10_takeText 79 3 82 (.getfield 25) := ⟨by decide +kernel, rfl⟩
theorem e_X10_takeText_82 : DC cX10_takeText 82 1 83 (.iconst 4) := ⟨by decide +kernel, rfl⟩
theorem e_X10_takeText_83 : DC cX10_takeText 83 1 84 (.iload_n 1) := ⟨by decide +kernel, rfl⟩
theorem e_X10_takeText_84 : DC cX10_takeText 84 1 85 (.iadd) := ⟨by decide +kernel, rfl⟩
theorem e_X10_takeText_85 : DC cX10_takeText 85 1 86 (.iaload) := ⟨by decide +kernel, rfl⟩
theorem e_X10_takeText_86 : DC cX10_takeText 86 1 87 (.iastore) := ⟨by decide +kernel, rfl⟩
theorem e_X10_takeText_87 : DC cX10_takeText 87 1 88 (.aload_n 0) := ⟨by decide +kernel, rfl⟩
theorem e_X10_takeText_88 : DC cX10_takeText 88 3 91 (.getfield 28) := ⟨by decide +kernel, rfl⟩
theorem fl_X10_28 : FL RX10 28 8 8 := ⟨RX10, TX10, 37, rfl, by decide, uw_8, tb_in 1468 (by decide +kernel) (by decide +kernel), rfl⟩
theorem e_X10_takeText_91 : DC cX10_takeText 91 1 92 (.iload_n 1) := ⟨by decide +kernel, rfl⟩
theorem e_X10_takeText_92 : DC cX10_takeText 92 1 93 (.aload_n 0) := ⟨by decide +kernel, rfl⟩
theorem e_X10_takeText_93 : DC cX10_takeText 93 3 96 (.getfield 28) := ⟨by decide +kernel, rfl⟩
theorem e_X10_takeText_96 : DC cX10_takeText 96 1 97 (.iconst 4) := ⟨by decide +kernel, rfl⟩
theorem e_X10_takeText_97 : DC cX10_takeText 97 1 98 (.iload_n 1) := ⟨by decide +kernel, rfl⟩
theorem e_X10_takeText_98 : DC cX10_takeText 98 1 99 (.iadd) := ⟨by decide +kernel, rfl⟩
theorem e_X10_takeText_99 : DC cX10_takeText 99 1 100 (.iaload) := ⟨by decide +kernel, rfl⟩
theorem e_X10_takeText_100 : DC cX10_takeText 100 1 101 (.iastore) := ⟨by decide +kernel, rfl⟩
theorem e_X10_takeText_101 : DC cX10_takeText 101 1 102 (.aload_n 0) := ⟨by decide +kernel, rfl⟩
theorem e_X10_takeText_102 : DC cX10_takeText 102 3 105 (.getfield 31) := ⟨by decide +kernel, rfl⟩
theorem fl_X10_31 : FL RX10 31 8 9 := ⟨RX10, TX10, 37, rfl, by decide, uw_8, tb_in 1469 (by decide +kernel) (by decide +kernel), rfl⟩
theorem e_X10_takeText_105 : DC cX10_takeText 105 1 106 (.iload_n 1) := ⟨by decide +kernel, rfl⟩
theorem e_X10_takeText_106 : DC cX10_takeText 106 1 107 (.aload_n 0) := ⟨by decide +kernel, rfl⟩
theorem e_X10_takeText_107 : DC cX10_takeText 107 3 110 (.getfield 31) := ⟨by decide +kernel, rfl⟩
theorem e_X10_takeText_110 : DC cX10_takeText 110 1 111 (.iconst 4) := ⟨by decide +kernel, rfl⟩
theorem e_X10_takeText_111 : DC cX10_takeText 111 1 112 (.iload_n 1) := ⟨by decide +kernel, rfl⟩
theorem e_X10_takeText_112 : DC cX10_takeText 112 1 113 (.iadd) := ⟨by decide +kernel, rfl⟩
theorem e_X10_takeText_113 : DC cX10_takeText 113 1 114 (.iaload) := ⟨by decide +kernel, rfl⟩
theorem e_X10_takeText_114 : DC cX10_takeText 114 1 115 (.iastore) := ⟨by decide +kernel, rfl⟩
theorem e_X10_takeText_115 : DC cX10_takeText 115 1 116 (.aload_n 0) := ⟨by decide +kernel, rfl⟩
theorem e_X10_takeText_116 : DC cX10_takeText 116 3 119 (.getfield 34) := ⟨by decide +kernel, rfl⟩
theorem fl_X10_34 : FL RX10 34 8 10 := ⟨RX10, TX10, 37, rfl, by decide, uw_8, tb_in 1470 (by decide +kernel) (by decide +kernel), rfl⟩
theorem e_X10_takeText_119 : DC cX10_takeText 119 1 120 (.iload_n 1) := ⟨by decide +kernel, rfl⟩
theorem e_X10_takeText_120 : DC cX10_takeText 120 1 121 (.aload_n 0) := ⟨by decide +kernel, rfl⟩
theorem e_X10_takeText_121 : DC cX10_takeText 121 3 124 (.getfield 34) := ⟨by decide +kernel, rfl⟩
theorem e_X10_takeText_124 : DC cX10_takeText 124 1 125 (.iconst 4) := ⟨by decide +kernel, rfl⟩
theorem e_X10_takeText_125 : DC cX10_takeText 125 1 126 (.iload_n 1) := ⟨by decide +kernel, rfl⟩
theorem e_X10_takeText_126 : DC cX10_takeText 126 1 127 (.iadd) := ⟨by decide +kernel, rfl⟩
theorem e_X10_takeText_127 : DC cX10_takeText 127 1 128 (.iaload) := ⟨by decide +kernel, rfl⟩
theorem e_X10_takeText_128 : DC cX10_takeText 128 1 129 (.iastore) := ⟨by decide +kernel, rfl⟩
theorem e_X10_takeText_129 : DC cX10_takeText 129 1 130 (.aload_n 0) := ⟨by decide +kernel, rfl⟩
theorem e_X10_takeText_130 : DC cX10_takeText 130 3 133 (.getfield 46) := ⟨by decide +kernel, rfl⟩
theorem fl_X10_46 : FL RX10 46 8 14 := ⟨RX10, TX10, 37, rfl, by decide, uw_8, tb_in 1474 (by decide +kernel) (by decide +kernel), rfl⟩
theorem e_X10_takeText_133 : DC cX10_takeText 133 1 134 (.iload_n 1) := ⟨by decide +kernel, rfl⟩
theorem e_X10_takeText_134 : DC cX10_takeText 134 1 135 (.aload_n 0) := ⟨by decide +kernel, rfl⟩
theorem e_X10_takeText_135 : DC cX10_takeText 135 3 138 (.getfield 46) := ⟨by decide +kernel, rfl⟩
theorem e_X10_takeText_138 : DC cX10_takeText 138 1 139 (.iconst 4) := ⟨by decide +kernel, rfl⟩
theorem e_X10_takeText_139 : DC cX10_takeText 139 1 140 (.iload_n 1) := ⟨by decide +kernel, rfl⟩
theorem e_X10_takeText_140 : DC cX10_takeText 140 1 141 (.iadd) := ⟨by decide +kernel, rfl⟩
theorem e_X10_takeText_141 : DC cX10_takeText 141 1 142 (.iaload) := ⟨by decide +kernel, rfl⟩
theorem e_X10_takeText_142 : DC cX10_takeText 142 1 143 (.iastore) := ⟨by decide +kernel, rfl⟩
theorem e_X10_takeText_143 : DC cX10_takeText 143 1 144 (.aload_n 0) := ⟨by decide +kernel, rfl⟩
theorem e_X10_takeText_144 : DC cX10_takeText 144 3 147 (.getfield 49) := ⟨by decide +kernel, rfl⟩
theorem fl_X10_49 : FL RX10 49 8 15 := ⟨RX10, TX10, 37, rfl, by decide, uw_8, tb_in 1475 (by decide +kernel) (by decide +kernel), rfl⟩
theorem e_X10_takeText_147 : DC cX10_takeText 147 1 148 (.iload_n 1) := ⟨by decide +kernel, rfl⟩
theorem e_X10_takeText_148 : DC cX10_takeText 148 1 149 (.aload_n 0) := ⟨by decide +kernel, rfl⟩
theorem e_X10_takeText_149 : DC cX10_takeText 149 3 152 (.getfield 49) := ⟨by decide +kernel, rfl⟩
theorem e_X10_takeText_152 : DC cX10_takeText 152 1 153 (.iconst 4) := ⟨by decide +kernel, rfl⟩
theorem e_X10_takeText_153 : DC cX10_takeText 153 1 154 (.iload_n 1) := ⟨by decide +kernel, rfl⟩
theorem e_X10_takeText_154 : DC cX10_takeText 154 1 155 (.iadd) := ⟨by decide +kernel, rfl⟩
theorem e_X10_takeText_155 : DC cX10_takeText 155 1 156 (.iaload) := ⟨by decide +kernel, rfl⟩
theorem e_X10_takeText_156 : DC cX10_takeText 156 1 157 (.iastore) := ⟨by decide +kernel, rfl⟩
theorem e_X10_takeText_157 : DC cX10_takeText 157 1 158 (.aload_n 0) := ⟨by decide +kernel, rfl⟩
theorem e_X10_takeText_158 : DC cX10_takeText 158 3 161 (.getfield 52) := ⟨by decide +kernel, rfl⟩
theorem fl_X10_52 : FL RX10 52 8 16 := ⟨RX10, TX10, 37, rfl, by decide, uw_8, tb_in 1476 (by decide +kernel) (by decide +kernel), rfl⟩
theorem e_X10_takeText_161 : DC cX10_takeText 161 1 162 (.iload_n 1) := ⟨by decide +kernel, rfl⟩
theorem e_X10_takeText_162 : DC cX10_takeText 162 1 163 (.aload_n 0) := ⟨by decide +kernel, rfl⟩
theorem e_X10_takeText_163 : DC cX10_takeText 163 3 166 (.getfield 52) := ⟨by decide +kernel, rfl⟩
theorem e_X10_takeText_166 : DC cX10_takeText 166 1 167 (.iconst 4) := ⟨by decide +kernel, rfl⟩
theorem e_X10_takeText_167 : DC cX10_takeText 167 1 168 (.iload_n 1) := ⟨by decide +kernel, rfl⟩
theorem e_X10_takeText_168 : DC cX10_takeText 168 1 169 (.iadd) := ⟨by decide +kernel, rfl⟩
theorem e_X10_takeText_169 : DC cX10_takeText 169 1 170 (.iaload) := ⟨by decide +kernel, rfl⟩
theorem e_X10_takeText_170 : DC cX10_takeText 170 1 171 (.iastore) := ⟨by decide +kernel, rfl⟩
theorem e_X10_takeText_171 : DC cX10_takeText 171 3 174 (.iinc 1 1) := ⟨by decide +kernel, rfl⟩
theorem e_X10_takeText_174 : DJ cX10_takeText 174 26 177 .goto := DJ.mk (-148) (by decide +kernel) (by decide) rfl
theorem e_X10_takeText_177 : DC cX10_takeText 177 1 178 (.iconst 0) := ⟨by decide +kernel, rfl⟩
theorem e_X10_takeText_178 : DC cX10_takeText 178 1 179 (.istore_n 1) := ⟨by decide +kernel, rfl⟩
theorem e_X10_begins_2 : DC cX10_begins 2 1 3 (.iload_n 1) := ⟨by decide +kernel, rfl⟩
theorem e_X10_begins_3 : DC cX10_begins 3 3 6 (.sipush 1113) := ⟨by decide +kernel, rfl⟩
theorem e_X10_begins_6 : DJ cX10_begins 6 22 9 (.if_icmp .ge) := DJ.mk 16 (by decide +kernel) (by decide) rfl
theorem e_X10_begins_9 : DC cX10_begins 9 1 10 (.aload_n 0) := ⟨by decide +kernel, rfl⟩
theorem e_X10_begins_10 : DC cX10_begins 10 3 13 (.getfield 59) := ⟨by decide +kernel, rfl⟩
theorem fl_X10_59 : FL RX10 59 8 27 := ⟨RX10, TX10, 37, rfl, by decide, uw_8, tb_in 1487 (by decide +kernel) (by decide +kernel), rfl⟩
theorem e_X10_begins_13 : DC cX10_begins 13 1 14 (.iload_n 1) := ⟨by decide +kernel, rfl⟩
theorem e_X10_begins_14 : DC cX10_begins 14 1 15 (.lconst 0) := ⟨by decide +kernel, rfl⟩
theorem e_X10_begins_15 : DC cX10_begins 15 1 16 (.lastore) := ⟨by decide +kernel, rfl⟩
theorem e_X10_begins_16 : DC cX10_begins 16 3 19 (.iinc 1 1) := ⟨by decide +kernel, rfl⟩
theorem e_X10_begins_19 : DJ cX10_begins 19 2 22 .goto := DJ.mk (-17) (by decide +kernel) (by decide) rfl
theorem e_X10_begins_24 : DC cX10_begins 24 1 25 (.iload_n 1) := ⟨by decide +kernel, rfl⟩
theorem e_X10_begins_25 : DC cX10_begins 25 2 27 (.bipush 99) := ⟨by decide +kernel, rfl⟩
theorem e_X10_begins_27 : DJ cX10_begins 27 94 30 (.if_icmp .gt) := DJ.mk 67 (by decide +kernel) (by decide) rfl
theorem e_X10_begins_94 : DC cX10_begins 94 1 95 (.iconst 0) := ⟨by decide +kernel, rfl⟩
theorem e_X10_begins_95 : DC cX10_begins 95 1 96 (.istore_n 1) := ⟨by decide +kernel, rfl⟩
theorem e_X10_begins_96 : DC cX10_begins 96 1 97 (.iload_n 1) := ⟨by decide +kernel, rfl⟩
theorem e_X10_begins_97 : DC cX10_begins 97 1 98 (.aload_n 0) := ⟨by decide +kernel, rfl⟩
theorem e_X10_begins_98 : DC cX10_begins 98 3 101 (.invokevirtual 221) := ⟨by decide +kernel, rfl⟩
theorem cb_X10_leases : CB yX10_leases cX10_leases 1 (some .int) 0 := ⟨tb_in 1440 (by decide +kernel) (by decide +kernel), tb_in 10 (by decide +kernel) (by decide +kernel), by decide +kernel⟩
theorem ml_X10_221 : Cond.methodLink RX10 221 yX10_leases ∈ tb := tb_in 1437 (by decide +kernel) (by decide +kernel)
theorem im_X10_leases : Cond.instanceMethod yX10_leases ∈ tb := tb_in 1439 (by decide +kernel) (by decide +kernel)
theorem se_X10_leases : Cond.selects (yX10_leases).cls yX10_leases yX10_leases ∈ tb := tb_sel 13 (by decide +kernel) (by decide +kernel)
theorem e_X10_begins_101 : DJ cX10_begins 101 274 104 (.if_icmp .ge) := DJ.mk 173 (by decide +kernel) (by decide) rfl
theorem e_X10_begins_274 : DC cX10_begins 274 1 275 (.return_) := ⟨by decide +kernel, rfl⟩
theorem e_X10_begins_30 : DC cX10_begins 30 1 31 (.aload_n 0) := ⟨by decide +kernel, rfl⟩
theorem e_X10_begins_31 : DC cX10_begins 31 3 34 (.getfield 59) := ⟨by decide +kernel, rfl⟩
theorem e_X10_begins_34 : DC cX10_begins 34 3 37 (.sipush 644) := ⟨by decide +kernel, rfl⟩
theorem e_X10_begins_37 : DC cX10_begins 37 1 38 (.iload_n 1) := ⟨by decide +kernel, rfl⟩
theorem e_X10_begins_38 : DC cX10_begins 38 1 39 (.iadd) := ⟨by decide +kernel, rfl⟩
theorem e_X10_begins_39 : DC cX10_begins 39 3 42 (.ldc2_w 224) := ⟨by decide +kernel, rfl⟩
theorem kc_X10_224 : Cond.constantLong RX10 224 1000 ∈ tb := tb_in 1436 (by decide +kernel) (by decide +kernel)
theorem e_X10_begins_42 : DC cX10_begins 42 1 43 (.lastore) := ⟨by decide +kernel, rfl⟩
theorem e_X10_begins_43 : DC cX10_begins 43 1 44 (.iconst 0) := ⟨by decide +kernel, rfl⟩
theorem e_X10_begins_44 : DC cX10_begins 44 1 45 (.istore_n 2) := ⟨by decide +kernel, rfl⟩
theorem e_X10_begins_45 : DC cX10_begins 45 1 46 (.iload_n 2) := ⟨by decide +kernel, rfl⟩
theorem e_X10_begins_46 : DC cX10_begins 46 1 47 (.aload_n 0) := ⟨by decide +kernel, rfl⟩
theorem e_X10_begins_47 : DC cX10_begins 47 3 50 (.getfield 13) := ⟨by decide +kernel, rfl⟩
theorem e_X10_begins_50 : DC cX10_begins 50 1 51 (.iconst 2) := ⟨by decide +kernel, rfl⟩
theorem e_X10_begins_51 : DC cX10_begins 51 1 52 (.iaload) := ⟨by decide +kernel, rfl⟩
theorem e_X10_begins_52 : DJ cX10_begins 52 88 55 (.if_icmp .ge) := DJ.mk 36 (by decide +kernel) (by decide) rfl
theorem e_X10_begins_88 : DC cX10_begins 88 3 91 (.iinc 1 1) := ⟨by decide +kernel, rfl⟩
theorem e_X10_begins_91 : DJ cX10_begins 91 24 94 .goto := DJ.mk (-67) (by decide +kernel) (by decide) rfl
theorem e_X10_begins_0 : DC cX10_begins 0 1 1 (.iconst 0) := ⟨by decide +kernel, rfl⟩
theorem e_X10_begins_1 : DC cX10_begins 1 1 2 (.istore_n 1) := ⟨by decide +kernel, rfl⟩
theorem e_X10_begins_22 : DC cX10_begins 22 1 23 (.iconst 0) := ⟨by decide +kernel, rfl⟩
theorem e_X10_begins_23 : DC cX10_begins 23 1 24 (.istore_n 1) := ⟨by decide +kernel, rfl⟩
set_option maxRecDepth 20000 in
theorem k_leases0 (l : Launch) (V : VX) (N : Nat) (σ : Mem) (m : Nat) (v_thrown v_taped v_lines v_size v_at v_place v_sort v_value v_fault v_faultPlace v_lastFault v_lastPlace v_undoable v_hasImage v_drawn : Int32)  (h_obj : σ m = some (ob 8 [.int v_thrown, .ref (m + 1), .int v_taped, .ref (m + 2), .ref (m + 3), .ref (m + 4), .ref (m + 5), .ref (m + 6), .ref (m + 7), .ref (m + 8), .ref (m + 9), .ref (m + 10), .ref (m + 11), .ref (m + 12), .ref (m + 13), .ref (m + 14), .ref (m + 15), .int v_lines, .int v_size, .int v_at, .int v_place, .int v_sort, .int v_value, .int v_fault, .int v_faultPlace, .int v_lastFault, .int v_lastPlace, .ref (m + 16), .ref (m + 17), .ref (m + 18), .ref (m + 19), .ref (m + 20), .int v_undoable, .int v_hasImage, .ref (m + 21), .ref (m + 22), .int v_drawn])) (h_number : σ (m + 2) = some (aI V 10 (fun _ => 0)))  : Ct l V yX10_leases cX10_leases 1 (some .int) 0 0 0 N σ [.ref m] (fun r τ => r = some (.int 0) ∧ τ = σ) := by
  refine Ct.of (by decide) (Nat.le_of_ble_eq_true rfl) [(0, .ref m)] rfl (fun X hX F hQ => ?_)
  refine m_aload_n F rfl e_X10_leases_0 ?_
  refine m_get F e_X10_leases_1 fl_X10_13 h_obj rfl ?_
  refine m_iconst F (v := 0) (by decide) e_X10_leases_4 ?_
  refine m_iald F (j := 0) e_X10_leases_5 h_number (by decide) (by unfold vp_in; decide) ?_
  refine Wm.topE (w := 0) (rfl) ?_
  exact m_iret F hQ e_X10_leases_6 (⟨rfl, rfl⟩)
set_option maxRecDepth 20000 in
theorem k_reading0 (l : Launch) (V : VX) (N : Nat) (σ : Mem) (m : Nat) (v_thrown v_taped v_lines v_size v_at v_place v_sort v_value v_fault v_faultPlace v_lastFault v_lastPlace v_undoable v_hasImage v_drawn : Int32) (i : Nat) (hi : i < 5) (h_obj : σ m = some (ob 8 [.int v_thrown, .ref (m + 1), .int v_taped, .ref (m + 2), .ref (m + 3), .ref (m + 4), .ref (m + 5), .ref (m + 6), .ref (m + 7), .ref (m + 8), .ref (m + 9), .ref (m + 10), .ref (m + 11), .ref (m + 12), .ref (m + 13), .ref (m + 14), .ref (m + 15), .int v_lines, .int v_size, .int v_at, .int v_place, .int v_sort, .int v_value, .int v_fault, .int v_faultPlace, .int v_lastFault, .int v_lastPlace, .ref (m + 16), .ref (m + 17), .ref (m + 18), .ref (m + 19), .ref (m + 20), .int v_undoable, .int v_hasImage, .ref (m + 21), .ref (m + 22), .int v_drawn])) (h_number : σ (m + 2) = some (aI V 10 (fun _ => 0)))  : Ct l V yX10_reading cX10_reading 2 (some .int) 0 0 0 N σ [.ref m, .int (nI i)] (fun r τ => r = some (.int 0) ∧ τ = σ) := by
  refine Ct.of (by decide) (Nat.le_of_ble_eq_true rfl) [(0, .ref m), (1, .int (nI i))] rfl (fun X hX F hQ => ?_)
  refine m_aload_n F rfl e_X10_reading_0 ?_
  refine m_get F e_X10_reading_1 fl_X10_13 h_obj rfl ?_
  refine m_iconst F (v := 5) (by decide) e_X10_reading_4 ?_
  refine m_iload_n F rfl e_X10_reading_5 ?_
  refine m_iadd F e_X10_reading_6 ?_
  refine Wm.topE (w := nI (5 + i)) (nI_add 5 i) ?_
  refine m_iald F (j := 5 + i) e_X10_reading_7 h_number (nI_clamp (by omega)) (vp_in_nI (by omega) (by omega)) ?_
  refine Wm.topE (w := 0) (rfl) ?_
  exact m_iret F hQ e_X10_reading_8 (⟨rfl, rfl⟩)
set_option maxRecDepth 20000 in
theorem k_reads0 (l : Launch) (V : VX) (N : Nat) (σ : Mem) (m : Nat) (v_thrown v_taped v_lines v_size v_at v_place v_sort v_value v_fault v_faultPlace v_lastFault v_lastPlace v_undoable v_hasImage v_drawn : Int32) (i : Nat) (hi : i < 5) (h_obj : σ m = some (ob 8 [.int v_thrown, .ref (m + 1), .int v_taped, .ref (m + 2), .ref (m + 3), .ref (m + 4), .ref (m + 5), .ref (m + 6), .ref (m + 7), .ref (m + 8), .ref (m + 9), .ref (m + 10), .ref (m + 11), .ref (m + 12), .ref (m + 13), .ref (m + 14), .ref (m + 15), .int v_lines, .int v_size, .int v_at, .int v_place, .int v_sort, .int v_value, .int v_fault, .int v_faultPlace, .int v_lastFault, .int v_lastPlace, .ref (m + 16), .ref (m + 17), .ref (m + 18), .ref (m + 19), .ref (m + 20), .int v_undoable, .int v_hasImage, .ref (m + 21), .ref (m + 22), .int v_drawn])) (h_number : σ (m + 2) = some (aI V 10 (fun _ => 0)))  : Ct l V yX10_reads cX10_reads 3 none 0 0 0 N σ [.ref m, .int (nI i), .int 0] (fun r τ => r = none ∧ τ = σ) := by
  refine Ct.of (by decide) (Nat.le_of_ble_eq_true rfl) [(0, .ref m), (1, .int (nI i)), (2, .int 0)] rfl (fun X hX F hQ => ?_)
  refine m_aload_n F rfl e_X10_reads_0 ?_
  refine m_get F e_X10_reads_1 fl_X10_13 h_obj rfl ?_
  refine m_iconst F (v := 5) (by decide) e_X10_reads_4 ?_
  refine m_iload_n F rfl e_X10_reads_5 ?_
  refine m_iadd F e_X10_reads_6 ?_
  refine Wm.topE (w := nI (5 + i)) (nI_add 5 i) ?_
  refine m_iload_n F rfl e_X10_reads_7 ?_
  refine m_iast F (j := 5 + i) e_X10_reads_8 h_number (nI_clamp (by omega)) (vp_in_nI (by omega) (by omega)) upd_c (up_self h_number).symm ?_
  exact m_vret F hQ e_X10_reads_9 (⟨rfl, rfl⟩)
set_option maxRecDepth 20000 in
theorem k_freshText0 (l : Launch) (V : VX) (N : Nat) (σ : Mem) (m : Nat) (v_thrown v_taped v_lines v_size v_at v_place v_sort v_value v_fault v_faultPlace v_lastFault v_lastPlace v_undoable v_hasImage v_drawn : Int32)  (h_obj : σ m = some (ob 8 [.int v_thrown, .ref (m + 1), .int v_taped, .ref (m + 2), .ref (m + 3), .ref (m + 4), .ref (m + 5), .ref (m + 6), .ref (m + 7), .ref (m + 8), .ref (m + 9), .ref (m + 10), .ref (m + 11), .ref (m + 12), .ref (m + 13), .ref (m + 14), .ref (m + 15), .int v_lines, .int v_size, .int v_at, .int v_place, .int v_sort, .int v_value, .int v_fault, .int v_faultPlace, .int v_lastFault, .int v_lastPlace, .ref (m + 16), .ref (m + 17), .ref (m + 18), .ref (m + 19), .ref (m + 20), .int v_undoable, .int v_hasImage, .ref (m + 21), .ref (m + 22), .int v_drawn])) (h_number : σ (m + 2) = some (aI V 10 (fun _ => 0)))  : Ct l V yX10_freshText cX10_freshText 2 none 1 0 0 N σ [.ref m] (fun r τ => r = none ∧ τ = σ) := by
  refine Ct.of (by decide) (Nat.le_of_ble_eq_true rfl) [(0, .ref m)] rfl (fun X hX F hQ => ?_)
  refine m_iconst F (v := 0) (by decide) e_X10_freshText_0 ?_
  refine m_istore_n F (lv' := [(1, .int 0), (0, .ref m)]) e_X10_freshText_1 (by decide) rfl ?_
  refine m_iload_n F rfl e_X10_freshText_2 ?_
  refine m_iconst F (v := 5) (by decide) e_X10_freshText_3 ?_
  refine m_icmp_ge F e_X10_freshText_4 (fun q => absurd q (by decide)) (fun _ => ?_)
  refine m_aload_n F rfl e_X10_freshText_7 ?_
  refine m_iload_n F rfl e_X10_freshText_8 ?_
  refine m_iconst F (v := 0) (by decide) e_X10_freshText_9 ?_
  refine m_callV F e_X10_freshText_10 (k_reads0 (x_l X) V _ _ m v_thrown v_taped v_lines v_size v_at v_place v_sort v_value v_fault v_faultPlace v_lastFault v_lastPlace v_undoable v_hasImage v_drawn 0 (by omega) h_obj h_number ) cb_X10_reads ml_X10_170 im_X10_reads se_X10_reads h_obj rfl rfl (rest := []) rfl (Nat.le_of_ble_eq_true rfl) ⟨Nat.le_of_ble_eq_true rfl, Nat.le_of_ble_eq_true rfl⟩ ⟨Nat.le_of_ble_eq_true rfl, Nat.le_of_ble_eq_true rfl⟩ (k' := 0) (z' := 0) (N' := N) rfl rfl rfl (fun r τ hp => ?_)
  obtain ⟨rfl, rfl⟩ := hp
  refine m_iinc F (v := 1) (lv' := [(1, .int 1), (0, .ref m)]) e_X10_freshText_13 rfl (by decide) (by decide) rfl ?_
  refine m_goto F e_X10_freshText_16 ?_
  refine m_iload_n F rfl e_X10_freshText_2 ?_
  refine m_iconst F (v := 5) (by decide) e_X10_freshText_3 ?_
  refine m_icmp_ge F e_X10_freshText_4 (fun q => absurd q (by decide)) (fun _ => ?_)
  refine m_aload_n F rfl e_X10_freshText_7 ?_
  refine m_iload_n F rfl e_X10_freshText_8 ?_
  refine m_iconst F (v := 0) (by decide) e_X10_freshText_9 ?_
  refine m_callV F e_X10_freshText_10 (k_reads0 (x_l X) V _ _ m v_thrown v_taped v_lines v_size v_at v_place v_sort v_value v_fault v_faultPlace v_lastFault v_lastPlace v_undoable v_hasImage v_drawn 1 (by omega) h_obj h_number ) cb_X10_reads ml_X10_170 im_X10_reads se_X10_reads h_obj rfl rfl (rest := []) rfl (Nat.le_of_ble_eq_true rfl) ⟨Nat.le_of_ble_eq_true rfl, Nat.le_of_ble_eq_true rfl⟩ ⟨Nat.le_of_ble_eq_true rfl, Nat.le_of_ble_eq_true rfl⟩ (k' := 0) (z' := 0) (N' := N) rfl rfl rfl (fun r τ hp => ?_)
  obtain ⟨rfl, rfl⟩ := hp
  refine m_iinc F (v := 2) (lv' := [(1, .int 2), (0, .ref m)]) e_X10_freshText_13 rfl (by decide) (by decide) rfl ?_
  refine m_goto F e_X10_freshText_16 ?_
  refine m_iload_n F rfl e_X10_freshText_2 ?_
  refine m_iconst F (v := 5) (by decide) e_X10_freshText_3 ?_
  refine m_icmp_ge F e_X10_freshText_4 (fun q => absurd q (by decide)) (fun _ => ?_)
  refine m_aload_n F rfl e_X10_freshText_7 ?_
  refine m_iload_n F rfl e_X10_freshText_8 ?_
  refine m_iconst F (v := 0) (by decide) e_X10_freshText_9 ?_
  refine m_callV F e_X10_freshText_10 (k_reads0 (x_l X) V _ _ m v_thrown v_taped v_lines v_size v_at v_place v_sort v_value v_fault v_faultPlace v_lastFault v_lastPlace v_undoable v_hasImage v_drawn 2 (by omega) h_obj h_number ) cb_X10_reads ml_X10_170 im_X10_reads se_X10_reads h_obj rfl rfl (rest := []) rfl (Nat.le_of_ble_eq_true rfl) ⟨Nat.le_of_ble_eq_true rfl, Nat.le_of_ble_eq_true rfl⟩ ⟨Nat.le_of_ble_eq_true rfl, Nat.le_of_ble_eq_true rfl⟩ (k' := 0) (z' := 0) (N' := N) rfl rfl rfl (fun r τ hp => ?_)
  obtain ⟨rfl, rfl⟩ := hp
  refine m_iinc F (v := 3) (lv' := [(1, .int 3), (0, .ref m)]) e_X10_freshText_13 rfl (by decide) (by decide) rfl ?_
  refine m_goto F e_X10_freshText_16 ?_
  refine m_iload_n F rfl e_X10_freshText_2 ?_
  refine m_iconst F (v := 5) (by decide) e_X10_freshText_3 ?_
  refine m_icmp_ge F e_X10_freshText_4 (fun q => absurd q (by decide)) (fun _ => ?_)
  refine m_aload_n F rfl e_X10_freshText_7 ?_
  refine m_iload_n F rfl e_X10_freshText_8 ?_
  refine m_iconst F (v := 0) (by decide) e_X10_freshText_9 ?_
  refine m_callV F e_X10_freshText_10 (k_reads0 (x_l X) V _ _ m v_thrown v_taped v_lines v_size v_at v_place v_sort v_value v_fault v_faultPlace v_lastFault v_lastPlace v_undoable v_hasImage v_drawn 3 (by omega) h_obj h_number ) cb_X10_reads ml_X10_170 im_X10_reads se_X10_reads h_obj rfl rfl (rest := []) rfl (Nat.le_of_ble_eq_true rfl) ⟨Nat.le_of_ble_eq_true rfl, Nat.le_of_ble_eq_true rfl⟩ ⟨Nat.le_of_ble_eq_true rfl, Nat.le_of_ble_eq_true rfl⟩ (k' := 0) (z' := 0) (N' := N) rfl rfl rfl (fun r τ hp => ?_)
  obtain ⟨rfl, rfl⟩ := hp
  refine m_iinc F (v := 4) (lv' := [(1, .int 4), (0, .ref m)]) e_X10_freshText_13 rfl (by decide) (by decide) rfl ?_
  refine m_goto F e_X10_freshText_16 ?_
  refine m_iload_n F rfl e_X10_freshText_2 ?_
  refine m_iconst F (v := 5) (by decide) e_X10_freshText_3 ?_
  refine m_icmp_ge F e_X10_freshText_4 (fun q => absurd q (by decide)) (fun _ => ?_)
  refine m_aload_n F rfl e_X10_freshText_7 ?_
  refine m_iload_n F rfl e_X10_freshText_8 ?_
  refine m_iconst F (v := 0) (by decide) e_X10_freshText_9 ?_
  refine m_callV F e_X10_freshText_10 (k_reads0 (x_l X) V _ _ m v_thrown v_taped v_lines v_size v_at v_place v_sort v_value v_fault v_faultPlace v_lastFault v_lastPlace v_undoable v_hasImage v_drawn 4 (by omega) h_obj h_number ) cb_X10_reads ml_X10_170 im_X10_reads se_X10_reads h_obj rfl rfl (rest := []) rfl (Nat.le_of_ble_eq_true rfl) ⟨Nat.le_of_ble_eq_true rfl, Nat.le_of_ble_eq_true rfl⟩ ⟨Nat.le_of_ble_eq_true rfl, Nat.le_of_ble_eq_true rfl⟩ (k' := 0) (z' := 0) (N' := N) rfl rfl rfl (fun r τ hp => ?_)
  obtain ⟨rfl, rfl⟩ := hp
  refine m_iinc F (v := 5) (lv' := [(1, .int 5), (0, .ref m)]) e_X10_freshText_13 rfl (by decide) (by decide) rfl ?_
  refine m_goto F e_X10_freshText_16 ?_
  refine m_iload_n F rfl e_X10_freshText_2 ?_
  refine m_iconst F (v := 5) (by decide) e_X10_freshText_3 ?_
  refine m_icmp_ge F e_X10_freshText_4 (fun _ => ?_) (fun q => absurd (by decide) q)
  exact m_vret F hQ e_X10_freshText_19 (⟨rfl, rfl⟩)
set_option maxRecDepth 20000 in
theorem lp_takeText0 {V : VX} {X : MX} {N : Nat} {σ : Mem} {Post : Option Value → Mem → Prop} (F : Fx V X yX10_takeText cX10_takeText 2 none (rmd 1 0 0)) (hQ : Rt V X 0 0 N Post) {m : Nat} {v_thrown v_taped v_lines v_size v_at v_place v_sort v_value v_fault v_faultPlace v_lastFault v_lastPlace v_undoable v_hasImage v_drawn : Int32} (h_obj : σ m = some (ob 8 [.int v_thrown, .ref (m + 1), .int v_taped, .ref (m + 2), .ref (m + 3), .ref (m + 4), .ref (m + 5), .ref (m + 6), .ref (m + 7), .ref (m + 8), .ref (m + 9), .ref (m + 10), .ref (m + 11), .ref (m + 12), .ref (m + 13), .ref (m + 14), .ref (m + 15), .int v_lines, .int v_size, .int v_at, .int v_place, .int v_sort, .int v_value, .int v_fault, .int v_faultPlace, .int v_lastFault, .int v_lastPlace, .ref (m + 16), .ref (m + 17), .ref (m + 18), .ref (m + 19), .ref (m + 20), .int v_undoable, .int v_hasImage, .ref (m + 21), .ref (m + 22), .int v_drawn])) (h_number : σ (m + 2) = some (aI V 10 (fun _ => 0))) (h_name : σ (m + 3) = some (aI V 8 (fun _ => 0))) (h_starts : σ (m + 4) = some (aI V 8 (fun _ => 0))) (h_term : σ (m + 5) = some (aI V 8 (fun _ => 0))) (h_toldRate : σ (m + 6) = some (aI V 8 (fun _ => 0))) (h_marks : σ (m + 7) = some (aI V 8 (fun _ => 0))) (h_fair : σ (m + 8) = some (aI V 8 (fun _ => 0))) (h_fee : σ (m + 9) = some (aI V 8 (fun _ => 0))) (h_toldPay : σ (m + 10) = some (aI V 384 (fun _ => 0))) (h_changeAt : σ (m + 11) = some (aI V 16 (fun _ => 0))) (h_changeTo : σ (m + 12) = some (aI V 16 (fun _ => 0))) (h_optionOf : σ (m + 13) = some (aI V 8 (fun _ => 0))) (h_optionMany : σ (m + 14) = some (aI V 8 (fun _ => 0))) (h_optionPays : σ (m + 15) = some (aI V 8 (fun _ => 0))) (hp : Post none σ) : ∀ n i : Nat, i ≤ 192 → 192 - i < n → Wm V X 2 N σ 0 0 179 [(1, .int (nI i)), (0, .ref m)] [] := by
  intro n
  induction n with
  | zero => intro i h1 h2; exact absurd h2 (by omega)
  | succ n ih =>
    intro i h1 h2
    refine m_iload_n F rfl e_X10_takeText_179 ?_
    refine m_sipush F (v := 192) (by decide) e_X10_takeText_180 ?_
    refine m_icmp_ge F e_X10_takeText_183 (fun q183 => ?_) (fun q183 => ?_)
    · have c183 : i ≥ 192 := (nI_leI (a := 192) (b := i) (by omega) (by omega)).mp q183
      have hi : i = 192 := by omega
      subst hi
      refine m_iconst F (v := 0) (by decide) e_X10_takeText_208 ?_
      refine m_istore_n F (lv' := [(1, .int 0), (0, .ref m)]) e_X10_takeText_209 (by decide) rfl ?_
      refine m_iload_n F rfl e_X10_takeText_210 ?_
      refine m_bipush F (v := 8) (by decide) e_X10_takeText_211 ?_
      refine m_icmp_ge F e_X10_takeText_213 (fun q => absurd q (by decide)) (fun _ => ?_)
      refine m_aload_n F rfl e_X10_takeText_216 ?_
      refine m_get F e_X10_takeText_217 fl_X10_40 h_obj rfl ?_
      refine m_iload_n F rfl e_X10_takeText_220 ?_
      refine m_aload_n F rfl e_X10_takeText_221 ?_
      refine m_get F e_X10_takeText_222 fl_X10_40 h_obj rfl ?_
      refine m_bipush F (v := 8) (by decide) e_X10_takeText_225 ?_
      refine m_iload_n F rfl e_X10_takeText_227 ?_
      refine m_iadd F e_X10_takeText_228 ?_
      refine Wm.topE (w := 8) (by decide) ?_
      refine m_iald F (j := 8) e_X10_takeText_229 h_changeAt (by decide) (by unfold vp_in; decide) ?_
      refine Wm.topE (w := 0) (rfl) ?_
      refine m_iast F (j := 0) e_X10_takeText_230 h_changeAt (by decide) (by unfold vp_in; decide) upd_c (up_self h_changeAt).symm ?_
      refine m_aload_n F rfl e_X10_takeText_231 ?_
      refine m_get F e_X10_takeText_232 fl_X10_43 h_obj rfl ?_
      refine m_iload_n F rfl e_X10_takeText_235 ?_
      refine m_aload_n F rfl e_X10_takeText_236 ?_
      refine m_get F e_X10_takeText_237 fl_X10_43 h_obj rfl ?_
      refine m_bipush F (v := 8) (by decide) e_X10_takeText_240 ?_
      refine m_iload_n F rfl e_X10_takeText_242 ?_
      refine m_iadd F e_X10_takeText_243 ?_
      refine Wm.topE (w := 8) (by decide) ?_
      refine m_iald F (j := 8) e_X10_takeText_244 h_changeTo (by decide) (by unfold vp_in; decide) ?_
      refine Wm.topE (w := 0) (rfl) ?_
      refine m_iast F (j := 0) e_X10_takeText_245 h_changeTo (by decide) (by unfold vp_in; decide) upd_c (up_self h_changeTo).symm ?_
      refine m_iinc F (v := 1) (lv' := [(1, .int 1), (0, .ref m)]) e_X10_takeText_246 rfl (by decide) (by decide) rfl ?_
      refine m_goto F e_X10_takeText_249 ?_
      refine m_iload_n F rfl e_X10_takeText_210 ?_
      refine m_bipush F (v := 8) (by decide) e_X10_takeText_211 ?_
      refine m_icmp_ge F e_X10_takeText_213 (fun q => absurd q (by decide)) (fun _ => ?_)
      refine m_aload_n F rfl e_X10_takeText_216 ?_
      refine m_get F e_X10_takeText_217 fl_X10_40 h_obj rfl ?_
      refine m_iload_n F rfl e_X10_takeText_220 ?_
      refine m_aload_n F rfl e_X10_takeText_221 ?_
      refine m_get F e_X10_takeText_222 fl_X10_40 h_obj rfl ?_
      refine m_bipush F (v := 8) (by decide) e_X10_takeText_225 ?_
      refine m_iload_n F rfl e_X10_takeText_227 ?_
      refine m_iadd F e_X10_takeText_228 ?_
      refine Wm.topE (w := 9) (by decide) ?_
      refine m_iald F (j := 9) e_X10_takeText_229 h_changeAt (by decide) (by unfold vp_in; decide) ?_
      refine Wm.topE (w := 0) (rfl) ?_
      refine m_iast F (j := 1) e_X10_takeText_230 h_changeAt (by decide) (by unfold vp_in; decide) upd_c (up_self h_changeAt).symm ?_
      refine m_aload_n F rfl e_X10_takeText_231 ?_
      refine m_get F e_X10_takeText_232 fl_X10_43 h_obj rfl ?_
      refine m_iload_n F rfl e_X10_takeText_235 ?_
      refine m_aload_n F rfl e_X10_takeText_236 ?_
      refine m_get F e_X10_takeText_237 fl_X10_43 h_obj rfl ?_
      refine m_bipush F (v := 8) (by decide) e_X10_takeText_240 ?_
      refine m_iload_n F rfl e_X10_takeText_242 ?_
      refine m_iadd F e_X10_takeText_243 ?_
      refine Wm.topE (w := 9) (by decide) ?_
      refine m_iald F (j := 9) e_X10_takeText_244 h_changeTo (by decide) (by unfold vp_in; decide) ?_
      refine Wm.topE (w := 0) (rfl) ?_
      refine m_iast F (j := 1) e_X10_takeText_245 h_changeTo (by decide) (by unfold vp_in; decide) upd_c (up_self h_changeTo).symm ?_
      refine m_iinc F (v := 2) (lv' := [(1, .int 2), (0, .ref m)]) e_X10_takeText_246 rfl (by decide) (by decide) rfl ?_
      refine m_goto F e_X10_takeText_249 ?_
      refine m_iload_n F rfl e_X10_takeText_210 ?_
      refine m_bipush F (v := 8) (by decide) e_X10_takeText_211 ?_
      refine m_icmp_ge F e_X10_takeText_213 (fun q => absurd q (by decide)) (fun _ => ?_)
      refine m_aload_n F rfl e_X10_takeText_216 ?_
      refine m_get F e_X10_takeText_217 fl_X10_40 h_obj rfl ?_
      refine m_iload_n F rfl e_X10_takeText_220 ?_
      refine m_aload_n F rfl e_X10_takeText_221 ?_
      refine m_get F e_X10_takeText_222 fl_X10_40 h_obj rfl ?_
      refine m_bipush F (v := 8) (by decide) e_X10_takeText_225 ?_
      refine m_iload_n F rfl e_X10_takeText_227 ?_
      refine m_iadd F e_X10_takeText_228 ?_
      refine Wm.topE (w := 10) (by decide) ?_
      refine m_iald F (j := 10) e_X10_takeText_229 h_changeAt (by decide) (by unfold vp_in; decide) ?_
      refine Wm.topE (w := 0) (rfl) ?_
      refine m_iast F (j := 2) e_X10_takeText_230 h_changeAt (by decide) (by unfold vp_in; decide) upd_c (up_self h_changeAt).symm ?_
      refine m_aload_n F rfl e_X10_takeText_231 ?_
      refine m_get F e_X10_takeText_232 fl_X10_43 h_obj rfl ?_
      refine m_iload_n F rfl e_X10_takeText_235 ?_
      refine m_aload_n F rfl e_X10_takeText_236 ?_
      refine m_get F e_X10_takeText_237 fl_X10_43 h_obj rfl ?_
      refine m_bipush F (v := 8) (by decide) e_X10_takeText_240 ?_
      refine m_iload_n F rfl e_X10_takeText_242 ?_
      refine m_iadd F e_X10_takeText_243 ?_
      refine Wm.topE (w := 10) (by decide) ?_
      refine m_iald F (j := 10) e_X10_takeText_244 h_changeTo (by decide) (by unfold vp_in; decide) ?_
      refine Wm.topE (w := 0) (rfl) ?_
      refine m_iast F (j := 2) e_X10_takeText_245 h_changeTo (by decide) (by unfold vp_in; decide) upd_c (up_self h_changeTo).symm ?_
      refine m_iinc F (v := 3) (lv' := [(1, .int 3), (0, .ref m)]) e_X10_takeText_246 rfl (by decide) (by decide) rfl ?_
      refine m_goto F e_X10_takeText_249 ?_
      refine m_iload_n F rfl e_X10_takeText_210 ?_
      refine m_bipush F (v := 8) (by decide) e_X10_takeText_211 ?_
      refine m_icmp_ge F e_X10_takeText_213 (fun q => absurd q (by decide)) (fun _ => ?_)
      refine m_aload_n F rfl e_X10_takeText_216 ?_
      refine m_get F e_X10_takeText_217 fl_X10_40 h_obj rfl ?_
      refine m_iload_n F rfl e_X10_takeText_220 ?_
      refine m_aload_n F rfl e_X10_takeText_221 ?_
      refine m_get F e_X10_takeText_222 fl_X10_40 h_obj rfl ?_
      refine m_bipush F (v := 8) (by decide) e_X10_takeText_225 ?_
      refine m_iload_n F rfl e_X10_takeText_227 ?_
      refine m_iadd F e_X10_takeText_228 ?_
      refine Wm.topE (w := 11) (by decide) ?_
      refine m_iald F (j := 11) e_X10_takeText_229 h_changeAt (by decide) (by unfold vp_in; decide) ?_
      refine Wm.topE (w := 0) (rfl) ?_
      refine m_iast F (j := 3) e_X10_takeText_230 h_changeAt (by decide) (by unfold vp_in; decide) upd_c (up_self h_changeAt).symm ?_
      refine m_aload_n F rfl e_X10_takeText_231 ?_
      refine m_get F e_X10_takeText_232 fl_X10_43 h_obj rfl ?_
      refine m_iload_n F rfl e_X10_takeText_235 ?_
      refine m_aload_n F rfl e_X10_takeText_236 ?_
      refine m_get F e_X10_takeText_237 fl_X10_43 h_obj rfl ?_
      refine m_bipush F (v := 8) (by decide) e_X10_takeText_240 ?_
      refine m_iload_n F rfl e_X10_takeText_242 ?_
      refine m_iadd F e_X10_takeText_243 ?_
      refine Wm.topE (w := 11) (by decide) ?_
      refine m_iald F (j := 11) e_X10_takeText_244 h_changeTo (by decide) (by unfold vp_in; decide) ?_
      refine Wm.topE (w := 0) (rfl) ?_
      refine m_iast F (j := 3) e_X10_takeText_245 h_changeTo (by decide) (by unfold vp_in; decide) upd_c (up_self h_changeTo).symm ?_
      refine m_iinc F (v := 4) (lv' := [(1, .int 4), (0, .ref m)]) e_X10_takeText_246 rfl (by decide) (by decide) rfl ?_
      refine m_goto F e_X10_takeText_249 ?_
      refine m_iload_n F rfl e_X10_takeText_210 ?_
      refine m_bipush F (v := 8) (by decide) e_X10_takeText_211 ?_
      refine m_icmp_ge F e_X10_takeText_213 (fun q => absurd q (by decide)) (fun _ => ?_)
      refine m_aload_n F rfl e_X10_takeText_216 ?_
      refine m_get F e_X10_takeText_217 fl_X10_40 h_obj rfl ?_
      refine m_iload_n F rfl e_X10_takeText_220 ?_
      refine m_aload_n F rfl e_X10_takeText_221 ?_
      refine m_get F e_X10_takeText_222 fl_X10_40 h_obj rfl ?_
      refine m_bipush F (v := 8) (by decide) e_X10_takeText_225 ?_
      refine m_iload_n F rfl e_X10_takeText_227 ?_
      refine m_iadd F e_X10_takeText_228 ?_
      refine Wm.topE (w := 12) (by decide) ?_
      refine m_iald F (j := 12) e_X10_takeText_229 h_changeAt (by decide) (by unfold vp_in; decide) ?_
      refine Wm.topE (w := 0) (rfl) ?_
      refine m_iast F (j := 4) e_X10_takeText_230 h_changeAt (by decide) (by unfold vp_in; decide) upd_c (up_self h_changeAt).symm ?_
      refine m_aload_n F rfl e_X10_takeText_231 ?_
      refine m_get F e_X10_takeText_232 fl_X10_43 h_obj rfl ?_
      refine m_iload_n F rfl e_X10_takeText_235 ?_
      refine m_aload_n F rfl e_X10_takeText_236 ?_
      refine m_get F e_X10_takeText_237 fl_X10_43 h_obj rfl ?_
      refine m_bipush F (v := 8) (by decide) e_X10_takeText_240 ?_
      refine m_iload_n F rfl e_X10_takeText_242 ?_
      refine m_iadd F e_X10_takeText_243 ?_
      refine Wm.topE (w := 12) (by decide) ?_
      refine m_iald F (j := 12) e_X10_takeText_244 h_changeTo (by decide) (by unfold vp_in; decide) ?_
      refine Wm.topE (w := 0) (rfl) ?_
      refine m_iast F (j := 4) e_X10_takeText_245 h_changeTo (by decide) (by unfold vp_in; decide) upd_c (up_self h_changeTo).symm ?_
      refine m_iinc F (v := 5) (lv' := [(1, .int 5), (0, .ref m)]) e_X10_takeText_246 rfl (by decide) (by decide) rfl ?_
      refine m_goto F e_X10_takeText_249 ?_
      refine m_iload_n F rfl e_X10_takeText_210 ?_
      refine m_bipush F (v := 8) (by decide) e_X10_takeText_211 ?_
      refine m_icmp_ge F e_X10_takeText_213 (fun q => absurd q (by decide)) (fun _ => ?_)
      refine m_aload_n F rfl e_X10_takeText_216 ?_
      refine m_get F e_X10_takeText_217 fl_X10_40 h_obj rfl ?_
      refine m_iload_n F rfl e_X10_takeText_220 ?_
      refine m_aload_n F rfl e_X10_takeText_221 ?_
      refine m_get F e_X10_takeText_222 fl_X10_40 h_obj rfl ?_
      refine m_bipush F (v := 8) (by decide) e_X10_takeText_225 ?_
      refine m_iload_n F rfl e_X10_takeText_227 ?_
      refine m_iadd F e_X10_takeText_228 ?_
      refine Wm.topE (w := 13) (by decide) ?_
      refine m_iald F (j := 13) e_X10_takeText_229 h_changeAt (by decide) (by unfold vp_in; decide) ?_
      refine Wm.topE (w := 0) (rfl) ?_
      refine m_iast F (j := 5) e_X10_takeText_230 h_changeAt (by decide) (by unfold vp_in; decide) upd_c (up_self h_changeAt).symm ?_
      refine m_aload_n F rfl e_X10_takeText_231 ?_
      refine m_get F e_X10_takeText_232 fl_X10_43 h_obj rfl ?_
      refine m_iload_n F rfl e_X10_takeText_235 ?_
      refine m_aload_n F rfl e_X10_takeText_236 ?_
      refine m_get F e_X10_takeText_237 fl_X10_43 h_obj rfl ?_
      refine m_bipush F (v := 8) (by decide) e_X10_takeText_240 ?_
      refine m_iload_n F rfl e_X10_takeText_242 ?_
      refine m_iadd F e_X10_takeText_243 ?_
      refine Wm.topE (w := 13) (by decide) ?_
      refine m_iald F (j := 13) e_X10_takeText_244 h_changeTo (by decide) (by unfold vp_in; decide) ?_
      refine Wm.topE (w := 0) (rfl) ?_
      refine m_iast F (j := 5) e_X10_takeText_245 h_changeTo (by decide) (by unfold vp_in; decide) upd_c (up_self h_changeTo).symm ?_
      refine m_iinc F (v := 6) (lv' := [(1, .int 6), (0, .ref m)]) e_X10_takeText_246 rfl (by decide) (by decide) rfl ?_
      refine m_goto F e_X10_takeText_249 ?_
      refine m_iload_n F rfl e_X10_takeText_210 ?_
      refine m_bipush F (v := 8) (by decide) e_X10_takeText_211 ?_
      refine m_icmp_ge F e_X10_takeText_213 (fun q => absurd q (by decide)) (fun _ => ?_)
      refine m_aload_n F rfl e_X10_takeText_216 ?_
      refine m_get F e_X10_takeText_217 fl_X10_40 h_obj rfl ?_
      refine m_iload_n F rfl e_X10_takeText_220 ?_
      refine m_aload_n F rfl e_X10_takeText_221 ?_
      refine m_get F e_X10_takeText_222 fl_X10_40 h_obj rfl ?_
      refine m_bipush F (v := 8) (by decide) e_X10_takeText_225 ?_
      refine m_iload_n F rfl e_X10_takeText_227 ?_
      refine m_iadd F e_X10_takeText_228 ?_
      refine Wm.topE (w := 14) (by decide) ?_
      refine m_iald F (j := 14) e_X10_takeText_229 h_changeAt (by decide) (by unfold vp_in; decide) ?_
      refine Wm.topE (w := 0) (rfl) ?_
      refine m_iast F (j := 6) e_X10_takeText_230 h_changeAt (by decide) (by unfold vp_in; decide) upd_c (up_self h_changeAt).symm ?_
      refine m_aload_n F rfl e_X10_takeText_231 ?_
      refine m_get F e_X10_takeText_232 fl_X10_43 h_obj rfl ?_
      refine m_iload_n F rfl e_X10_takeText_235 ?_
      refine m_aload_n F rfl e_X10_takeText_236 ?_
      refine m_get F e_X10_takeText_237 fl_X10_43 h_obj rfl ?_
      refine m_bipush F (v := 8) (by decide) e_X10_takeText_240 ?_
      refine m_iload_n F rfl e_X10_takeText_242 ?_
      refine m_iadd F e_X10_takeText_243 ?_
      refine Wm.topE (w := 14) (by decide) ?_
      refine m_iald F (j := 14) e_X10_takeText_244 h_changeTo (by decide) (by unfold vp_in; decide) ?_
      refine Wm.topE (w := 0) (rfl) ?_
      refine m_iast F (j := 6) e_X10_takeText_245 h_changeTo (by decide) (by unfold vp_in; decide) upd_c (up_self h_changeTo).symm ?_
      refine m_iinc F (v := 7) (lv' := [(1, .int 7), (0, .ref m)]) e_X10_takeText_246 rfl (by decide) (by decide) rfl ?_
      refine m_goto F e_X10_takeText_249 ?_
      refine m_iload_n F rfl e_X10_takeText_210 ?_
      refine m_bipush F (v := 8) (by decide) e_X10_takeText_211 ?_
      refine m_icmp_ge F e_X10_takeText_213 (fun q => absurd q (by decide)) (fun _ => ?_)
      refine m_aload_n F rfl e_X10_takeText_216 ?_
      refine m_get F e_X10_takeText_217 fl_X10_40 h_obj rfl ?_
      refine m_iload_n F rfl e_X10_takeText_220 ?_
      refine m_aload_n F rfl e_X10_takeText_221 ?_
      refine m_get F e_X10_takeText_222 fl_X10_40 h_obj rfl ?_
      refine m_bipush F (v := 8) (by decide) e_X10_takeText_225 ?_
      refine m_iload_n F rfl e_X10_takeText_227 ?_
      refine m_iadd F e_X10_takeText_228 ?_
      refine Wm.topE (w := 15) (by decide) ?_
      refine m_iald F (j := 15) e_X10_takeText_229 h_changeAt (by decide) (by unfold vp_in; decide) ?_
      refine Wm.topE (w := 0) (rfl) ?_
      refine m_iast F (j := 7) e_X10_takeText_230 h_changeAt (by decide) (by unfold vp_in; decide) upd_c (up_self h_changeAt).symm ?_
      refine m_aload_n F rfl e_X10_takeText_231 ?_
      refine m_get F e_X10_takeText_232 fl_X10_43 h_obj rfl ?_
      refine m_iload_n F rfl e_X10_takeText_235 ?_
      refine m_aload_n F rfl e_X10_takeText_236 ?_
      refine m_get F e_X10_takeText_237 fl_X10_43 h_obj rfl ?_
      refine m_bipush F (v := 8) (by decide) e_X10_takeText_240 ?_
      refine m_iload_n F rfl e_X10_takeText_242 ?_
      refine m_iadd F e_X10_takeText_243 ?_
      refine Wm.topE (w := 15) (by decide) ?_
      refine m_iald F (j := 15) e_X10_takeText_244 h_changeTo (by decide) (by unfold vp_in; decide) ?_
      refine Wm.topE (w := 0) (rfl) ?_
      refine m_iast F (j := 7) e_X10_takeText_245 h_changeTo (by decide) (by unfold vp_in; decide) upd_c (up_self h_changeTo).symm ?_
      refine m_iinc F (v := 8) (lv' := [(1, .int 8), (0, .ref m)]) e_X10_takeText_246 rfl (by decide) (by decide) rfl ?_
      refine m_goto F e_X10_takeText_249 ?_
      refine m_iload_n F rfl e_X10_takeText_210 ?_
      refine m_bipush F (v := 8) (by decide) e_X10_takeText_211 ?_
      refine m_icmp_ge F e_X10_takeText_213 (fun _ => ?_) (fun q => absurd (by decide) q)
      exact m_vret F hQ e_X10_takeText_252 (hp)
    · have c183 : i < 192 := by have hh := mt (nI_leI (a := 192) (b := i) (by omega) (by omega)).mpr q183; omega
      refine m_aload_n F rfl e_X10_takeText_186 ?_
      refine m_get F e_X10_takeText_187 fl_X10_37 h_obj rfl ?_
      refine m_iload_n F rfl e_X10_takeText_190 ?_
      refine m_aload_n F rfl e_X10_takeText_191 ?_
      refine m_get F e_X10_takeText_192 fl_X10_37 h_obj rfl ?_
      refine m_sipush F (v := 192) (by decide) e_X10_takeText_195 ?_
      refine m_iload_n F rfl e_X10_takeText_198 ?_
      refine m_iadd F e_X10_takeText_199 ?_
      refine Wm.topE (w := nI (192 + i)) (nI_add 192 i) ?_
      refine m_iald F (j := 192 + i) e_X10_takeText_200 h_toldPay (nI_clamp (by omega)) (vp_in_nI (by omega) (by omega)) ?_
      refine Wm.topE (w := 0) (rfl) ?_
      refine m_iast F (j := i) e_X10_takeText_201 h_toldPay (nI_clamp (by omega)) (vp_in_nI (by omega) (by omega)) upd_c (up_self h_toldPay).symm ?_
      refine m_iinc F (v := nI (i + 1)) (lv' := [(1, .int (nI (i + 1))), (0, .ref m)]) e_X10_takeText_202 rfl (nI_add i 1) (by decide) rfl ?_
      refine m_goto F e_X10_takeText_205 ?_
      exact ih (i + 1) (by omega) (by omega)
set_option maxRecDepth 20000 in
theorem k_takeText0 (l : Launch) (V : VX) (N : Nat) (σ : Mem) (m : Nat) (v_thrown v_taped v_lines v_size v_at v_place v_sort v_value v_fault v_faultPlace v_lastFault v_lastPlace v_undoable v_hasImage v_drawn : Int32)  (h_obj : σ m = some (ob 8 [.int v_thrown, .ref (m + 1), .int v_taped, .ref (m + 2), .ref (m + 3), .ref (m + 4), .ref (m + 5), .ref (m + 6), .ref (m + 7), .ref (m + 8), .ref (m + 9), .ref (m + 10), .ref (m + 11), .ref (m + 12), .ref (m + 13), .ref (m + 14), .ref (m + 15), .int v_lines, .int v_size, .int v_at, .int v_place, .int v_sort, .int v_value, .int v_fault, .int v_faultPlace, .int v_lastFault, .int v_lastPlace, .ref (m + 16), .ref (m + 17), .ref (m + 18), .ref (m + 19), .ref (m + 20), .int v_undoable, .int v_hasImage, .ref (m + 21), .ref (m + 22), .int v_drawn])) (h_number : σ (m + 2) = some (aI V 10 (fun _ => 0))) (h_name : σ (m + 3) = some (aI V 8 (fun _ => 0))) (h_starts : σ (m + 4) = some (aI V 8 (fun _ => 0))) (h_term : σ (m + 5) = some (aI V 8 (fun _ => 0))) (h_toldRate : σ (m + 6) = some (aI V 8 (fun _ => 0))) (h_marks : σ (m + 7) = some (aI V 8 (fun _ => 0))) (h_fair : σ (m + 8) = some (aI V 8 (fun _ => 0))) (h_fee : σ (m + 9) = some (aI V 8 (fun _ => 0))) (h_toldPay : σ (m + 10) = some (aI V 384 (fun _ => 0))) (h_changeAt : σ (m + 11) = some (aI V 16 (fun _ => 0))) (h_changeTo : σ (m + 12) = some (aI V 16 (fun _ => 0))) (h_optionOf : σ (m + 13) = some (aI V 8 (fun _ => 0))) (h_optionMany : σ (m + 14) = some (aI V 8 (fun _ => 0))) (h_optionPays : σ (m + 15) = some (aI V 8 (fun _ => 0)))  : Ct l V yX10_takeText cX10_takeText 2 none 1 0 0 N σ [.ref m] (fun r τ => r = none ∧ τ = σ) := by
  refine Ct.of (by decide) (Nat.le_of_ble_eq_true rfl) [(0, .ref m)] rfl (fun X hX F hQ => ?_)
  refine m_iconst F (v := 0) (by decide) e_X10_takeText_0 ?_
  refine m_istore_n F (lv' := [(1, .int 0), (0, .ref m)]) e_X10_takeText_1 (by decide) rfl ?_
  refine m_iload_n F rfl e_X10_takeText_2 ?_
  refine m_iconst F (v := 5) (by decide) e_X10_takeText_3 ?_
  refine m_icmp_ge F e_X10_takeText_4 (fun q => absurd q (by decide)) (fun _ => ?_)
  refine m_aload_n F rfl e_X10_takeText_7 ?_
  refine m_get F e_X10_takeText_8 fl_X10_13 h_obj rfl ?_
  refine m_iload_n F rfl e_X10_takeText_11 ?_
  refine m_aload_n F rfl e_X10_takeText_12 ?_
  refine m_iload_n F rfl e_X10_takeText_13 ?_
  refine m_callV F e_X10_takeText_14 (k_reading0 (x_l X) V _ _ m v_thrown v_taped v_lines v_size v_at v_place v_sort v_value v_fault v_faultPlace v_lastFault v_lastPlace v_undoable v_hasImage v_drawn 0 (by omega) h_obj h_number ) cb_X10_reading ml_X10_157 im_X10_reading se_X10_reading h_obj rfl rfl (rest := [.int 0, .ref (m + 2)]) rfl (Nat.le_of_ble_eq_true rfl) ⟨Nat.le_of_ble_eq_true rfl, Nat.le_of_ble_eq_true rfl⟩ ⟨Nat.le_of_ble_eq_true rfl, Nat.le_of_ble_eq_true rfl⟩ (k' := 0) (z' := 0) (N' := N) rfl rfl rfl (fun r τ hp => ?_)
  obtain ⟨rfl, rfl⟩ := hp
  refine m_iast F (j := 0) e_X10_takeText_17 h_number (by decide) (by unfold vp_in; decide) upd_c (up_self h_number).symm ?_
  refine m_iinc F (v := 1) (lv' := [(1, .int 1), (0, .ref m)]) e_X10_takeText_18 rfl (by decide) (by decide) rfl ?_
  refine m_goto F e_X10_takeText_21 ?_
  refine m_iload_n F rfl e_X10_takeText_2 ?_
  refine m_iconst F (v := 5) (by decide) e_X10_takeText_3 ?_
  refine m_icmp_ge F e_X10_takeText_4 (fun q => absurd q (by decide)) (fun _ => ?_)
  refine m_aload_n F rfl e_X10_takeText_7 ?_
  refine m_get F e_X10_takeText_8 fl_X10_13 h_obj rfl ?_
  refine m_iload_n F rfl e_X10_takeText_11 ?_
  refine m_aload_n F rfl e_X10_takeText_12 ?_
  refine m_iload_n F rfl e_X10_takeText_13 ?_
  refine m_callV F e_X10_takeText_14 (k_reading0 (x_l X) V _ _ m v_thrown v_taped v_lines v_size v_at v_place v_sort v_value v_fault v_faultPlace v_lastFault v_lastPlace v_undoable v_hasImage v_drawn 1 (by omega) h_obj h_number ) cb_X10_reading ml_X10_157 im_X10_reading se_X10_reading h_obj rfl rfl (rest := [.int 1, .ref (m + 2)]) rfl (Nat.le_of_ble_eq_true rfl) ⟨Nat.le_of_ble_eq_true rfl, Nat.le_of_ble_eq_true rfl⟩ ⟨Nat.le_of_ble_eq_true rfl, Nat.le_of_ble_eq_true rfl⟩ (k' := 0) (z' := 0) (N' := N) rfl rfl rfl (fun r τ hp => ?_)
  obtain ⟨rfl, rfl⟩ := hp
  refine m_iast F (j := 1) e_X10_takeText_17 h_number (by decide) (by unfold vp_in; decide) upd_c (up_self h_number).symm ?_
  refine m_iinc F (v := 2) (lv' := [(1, .int 2), (0, .ref m)]) e_X10_takeText_18 rfl (by decide) (by decide) rfl ?_
  refine m_goto F e_X10_takeText_21 ?_
  refine m_iload_n F rfl e_X10_takeText_2 ?_
  refine m_iconst F (v := 5) (by decide) e_X10_takeText_3 ?_
  refine m_icmp_ge F e_X10_takeText_4 (fun q => absurd q (by decide)) (fun _ => ?_)
  refine m_aload_n F rfl e_X10_takeText_7 ?_
  refine m_get F e_X10_takeText_8 fl_X10_13 h_obj rfl ?_
  refine m_iload_n F rfl e_X10_takeText_11 ?_
  refine m_aload_n F rfl e_X10_takeText_12 ?_
  refine m_iload_n F rfl e_X10_takeText_13 ?_
  refine m_callV F e_X10_takeText_14 (k_reading0 (x_l X) V _ _ m v_thrown v_taped v_lines v_size v_at v_place v_sort v_value v_fault v_faultPlace v_lastFault v_lastPlace v_undoable v_hasImage v_drawn 2 (by omega) h_obj h_number ) cb_X10_reading ml_X10_157 im_X10_reading se_X10_reading h_obj rfl rfl (rest := [.int 2, .ref (m + 2)]) rfl (Nat.le_of_ble_eq_true rfl) ⟨Nat.le_of_ble_eq_true rfl, Nat.le_of_ble_eq_true rfl⟩ ⟨Nat.le_of_ble_eq_true rfl, Nat.le_of_ble_eq_true rfl⟩ (k' := 0) (z' := 0) (N' := N) rfl rfl rfl (fun r τ hp => ?_)
  obtain ⟨rfl, rfl⟩ := hp
  refine m_iast F (j := 2) e_X10_takeText_17 h_number (by decide) (by unfold vp_in; decide) upd_c (up_self h_number).symm ?_
  refine m_iinc F (v := 3) (lv' := [(1, .int 3), (0, .ref m)]) e_X10_takeText_18 rfl (by decide) (by decide) rfl ?_
  refine m_goto F e_X10_takeText_21 ?_
  refine m_iload_n F rfl e_X10_takeText_2 ?_
  refine m_iconst F (v := 5) (by decide) e_X10_takeText_3 ?_
  refine m_icmp_ge F e_X10_takeText_4 (fun q => absurd q (by decide)) (fun _ => ?_)
  refine m_aload_n F rfl e_X10_takeText_7 ?_
  refine m_get F e_X10_takeText_8 fl_X10_13 h_obj rfl ?_
  refine m_iload_n F rfl e_X10_takeText_11 ?_
  refine m_aload_n F rfl e_X10_takeText_12 ?_
  refine m_iload_n F rfl e_X10_takeText_13 ?_
  refine m_callV F e_X10_takeText_14 (k_reading0 (x_l X) V _ _ m v_thrown v_taped v_lines v_size v_at v_place v_sort v_value v_fault v_faultPlace v_lastFault v_lastPlace v_undoable v_hasImage v_drawn 3 (by omega) h_obj h_number ) cb_X10_reading ml_X10_157 im_X10_reading se_X10_reading h_obj rfl rfl (rest := [.int 3, .ref (m + 2)]) rfl (Nat.le_of_ble_eq_true rfl) ⟨Nat.le_of_ble_eq_true rfl, Nat.le_of_ble_eq_true rfl⟩ ⟨Nat.le_of_ble_eq_true rfl, Nat.le_of_ble_eq_true rfl⟩ (k' := 0) (z' := 0) (N' := N) rfl rfl rfl (fun r τ hp => ?_)
  obtain ⟨rfl, rfl⟩ := hp
  refine m_iast F (j := 3) e_X10_takeText_17 h_number (by decide) (by unfold vp_in; decide) upd_c (up_self h_number).symm ?_
  refine m_iinc F (v := 4) (lv' := [(1, .int 4), (0, .ref m)]) e_X10_takeText_18 rfl (by decide) (by decide) rfl ?_
  refine m_goto F e_X10_takeText_21 ?_
  refine m_iload_n F rfl e_X10_takeText_2 ?_
  refine m_iconst F (v := 5) (by decide) e_X10_takeText_3 ?_
  refine m_icmp_ge F e_X10_takeText_4 (fun q => absurd q (by decide)) (fun _ => ?_)
  refine m_aload_n F rfl e_X10_takeText_7 ?_
  refine m_get F e_X10_takeText_8 fl_X10_13 h_obj rfl ?_
  refine m_iload_n F rfl e_X10_takeText_11 ?_
  refine m_aload_n F rfl e_X10_takeText_12 ?_
  refine m_iload_n F rfl e_X10_takeText_13 ?_
  refine m_callV F e_X10_takeText_14 (k_reading0 (x_l X) V _ _ m v_thrown v_taped v_lines v_size v_at v_place v_sort v_value v_fault v_faultPlace v_lastFault v_lastPlace v_undoable v_hasImage v_drawn 4 (by omega) h_obj h_number ) cb_X10_reading ml_X10_157 im_X10_reading se_X10_reading h_obj rfl rfl (rest := [.int 4, .ref (m + 2)]) rfl (Nat.le_of_ble_eq_true rfl) ⟨Nat.le_of_ble_eq_true rfl, Nat.le_of_ble_eq_true rfl⟩ ⟨Nat.le_of_ble_eq_true rfl, Nat.le_of_ble_eq_true rfl⟩ (k' := 0) (z' := 0) (N' := N) rfl rfl rfl (fun r τ hp => ?_)
  obtain ⟨rfl, rfl⟩ := hp
  refine m_iast F (j := 4) e_X10_takeText_17 h_number (by decide) (by unfold vp_in; decide) upd_c (up_self h_number).symm ?_
  refine m_iinc F (v := 5) (lv' := [(1, .int 5), (0, .ref m)]) e_X10_takeText_18 rfl (by decide) (by decide) rfl ?_
  refine m_goto F e_X10_takeText_21 ?_
  refine m_iload_n F rfl e_X10_takeText_2 ?_
  refine m_iconst F (v := 5) (by decide) e_X10_takeText_3 ?_
  refine m_icmp_ge F e_X10_takeText_4 (fun _ => ?_) (fun q => absurd (by decide) q)
  refine m_iconst F (v := 0) (by decide) e_X10_takeText_24 ?_
  refine m_istore_n F (lv' := [(1, .int 0), (0, .ref m)]) e_X10_takeText_25 (by decide) rfl ?_
  refine m_iload_n F rfl e_X10_takeText_26 ?_
  refine m_iconst F (v := 4) (by decide) e_X10_takeText_27 ?_
  refine m_icmp_ge F e_X10_takeText_28 (fun q => absurd q (by decide)) (fun _ => ?_)
  refine m_aload_n F rfl e_X10_takeText_31 ?_
  refine m_get F e_X10_takeText_32 fl_X10_16 h_obj rfl ?_
  refine m_iload_n F rfl e_X10_takeText_35 ?_
  refine m_aload_n F rfl e_X10_takeText_36 ?_
  refine m_get F e_X10_takeText_37 fl_X10_16 h_obj rfl ?_
  refine m_iconst F (v := 4) (by decide) e_X10_takeText_40 ?_
  refine m_iload_n F rfl e_X10_takeText_41 ?_
  refine m_iadd F e_X10_takeText_42 ?_
  refine Wm.topE (w := 4) (by decide) ?_
  refine m_iald F (j := 4) e_X10_takeText_43 h_name (by decide) (by unfold vp_in; decide) ?_
  refine Wm.topE (w := 0) (rfl) ?_
  refine m_iast F (j := 0) e_X10_takeText_44 h_name (by decide) (by unfold vp_in; decide) upd_c (up_self h_name).symm ?_
  refine m_aload_n F rfl e_X10_takeText_45 ?_
  refine m_get F e_X10_takeText_46 fl_X10_19 h_obj rfl ?_
  refine m_iload_n F rfl e_X10_takeText_49 ?_
  refine m_aload_n F rfl e_X10_takeText_50 ?_
  refine m_get F e_X10_takeText_51 fl_X10_19 h_obj rfl ?_
  refine m_iconst F (v := 4) (by decide) e_X10_takeText_54 ?_
  refine m_iload_n F rfl e_X10_takeText_55 ?_
  refine m_iadd F e_X10_takeText_56 ?_
  refine Wm.topE (w := 4) (by decide) ?_
  refine m_iald F (j := 4) e_X10_takeText_57 h_starts (by decide) (by unfold vp_in; decide) ?_
  refine Wm.topE (w := 0) (rfl) ?_
  refine m_iast F (j := 0) e_X10_takeText_58 h_starts (by decide) (by unfold vp_in; decide) upd_c (up_self h_starts).symm ?_
  refine m_aload_n F rfl e_X10_takeText_59 ?_
  refine m_get F e_X10_takeText_60 fl_X10_22 h_obj rfl ?_
  refine m_iload_n F rfl e_X10_takeText_63 ?_
  refine m_aload_n F rfl e_X10_takeText_64 ?_
  refine m_get F e_X10_takeText_65 fl_X10_22 h_obj rfl ?_
  refine m_iconst F (v := 4) (by decide) e_X10_takeText_68 ?_
  refine m_iload_n F rfl e_X10_takeText_69 ?_
  refine m_iadd F e_X10_takeText_70 ?_
  refine Wm.topE (w := 4) (by decide) ?_
  refine m_iald F (j := 4) e_X10_takeText_71 h_term (by decide) (by unfold vp_in; decide) ?_
  refine Wm.topE (w := 0) (rfl) ?_
  refine m_iast F (j := 0) e_X10_takeText_72 h_term (by decide) (by unfold vp_in; decide) upd_c (up_self h_term).symm ?_
  refine m_aload_n F rfl e_X10_takeText_73 ?_
  refine m_get F e_X10_takeText_74 fl_X10_25 h_obj rfl ?_
  refine m_iload_n F rfl e_X10_takeText_77 ?_
  refine m_aload_n F rfl e_X10_takeText_78 ?_
  refine m_get F e_X10_takeText_79 fl_X10_25 h_obj rfl ?_
  refine m_iconst F (v := 4) (by decide) e_X10_takeText_82 ?_
  refine m_iload_n F rfl e_X10_takeText_83 ?_
  refine m_iadd F e_X10_takeText_84 ?_
  refine Wm.topE (w := 4) (by decide) ?_
  refine m_iald F (j := 4) e_X10_takeText_85 h_toldRate (by decide) (by unfold vp_in; decide) ?_
  refine Wm.topE (w := 0) (rfl) ?_
  refine m_iast F (j := 0) e_X10_takeText_86 h_toldRate (by decide) (by unfold vp_in; decide) upd_c (up_self h_toldRate).symm ?_
  refine m_aload_n F rfl e_X10_takeText_87 ?_
  refine m_get F e_X10_takeText_88 fl_X10_28 h_obj rfl ?_
  refine m_iload_n F rfl e_X10_takeText_91 ?_
  refine m_aload_n F rfl e_X10_takeText_92 ?_
  refine m_get F e_X10_takeText_93 fl_X10_28 h_obj rfl ?_
  refine m_iconst F (v := 4) (by decide) e_X10_takeText_96 ?_
  refine m_iload_n F rfl e_X10_takeText_97 ?_
  refine m_iadd F e_X10_takeText_98 ?_
  refine Wm.topE (w := 4) (by decide) ?_
  refine m_iald F (j := 4) e_X10_takeText_99 h_marks (by decide) (by unfold vp_in; decide) ?_
  refine Wm.topE (w := 0) (rfl) ?_
  refine m_iast F (j := 0) e_X10_takeText_100 h_marks (by decide) (by unfold vp_in; decide) upd_c (up_self h_marks).symm ?_
  refine m_aload_n F rfl e_X10_takeText_101 ?_
  refine m_get F e_X10_takeText_102 fl_X10_31 h_obj rfl ?_
  refine m_iload_n F rfl e_X10_takeText_105 ?_
  refine m_aload_n F rfl e_X10_takeText_106 ?_
  refine m_get F e_X10_takeText_107 fl_X10_31 h_obj rfl ?_
  refine m_iconst F (v := 4) (by decide) e_X10_takeText_110 ?_
  refine m_iload_n F rfl e_X10_takeText_111 ?_
  refine m_iadd F e_X10_takeText_112 ?_
  refine Wm.topE (w := 4) (by decide) ?_
  refine m_iald F (j := 4) e_X10_takeText_113 h_fair (by decide) (by unfold vp_in; decide) ?_
  refine Wm.topE (w := 0) (rfl) ?_
  refine m_iast F (j := 0) e_X10_takeText_114 h_fair (by decide) (by unfold vp_in; decide) upd_c (up_self h_fair).symm ?_
  refine m_aload_n F rfl e_X10_takeText_115 ?_
  refine m_get F e_X10_takeText_116 fl_X10_34 h_obj rfl ?_
  refine m_iload_n F rfl e_X10_takeText_119 ?_
  refine m_aload_n F rfl e_X10_takeText_120 ?_
  refine m_get F e_X10_takeText_121 fl_X10_34 h_obj rfl ?_
  refine m_iconst F (v := 4) (by decide) e_X10_takeText_124 ?_
  refine m_iload_n F rfl e_X10_takeText_125 ?_
  refine m_iadd F e_X10_takeText_126 ?_
  refine Wm.topE (w := 4) (by decide) ?_
  refine m_iald F (j := 4) e_X10_takeText_127 h_fee (by decide) (by unfold vp_in; decide) ?_
  refine Wm.topE (w := 0) (rfl) ?_
  refine m_iast F (j := 0) e_X10_takeText_128 h_fee (by decide) (by unfold vp_in; decide) upd_c (up_self h_fee).symm ?_
  refine m_aload_n F rfl e_X10_takeText_129 ?_
  refine m_get F e_X10_takeText_130 fl_X10_46 h_obj rfl ?_
  refine m_iload_n F rfl e_X10_takeText_133 ?_
  refine m_aload_n F rfl e_X10_takeText_134 ?_
  refine m_get F e_X10_takeText_135 fl_X10_46 h_obj rfl ?_
  refine m_iconst F (v := 4) (by decide) e_X10_takeText_138 ?_
  refine m_iload_n F rfl e_X10_takeText_139 ?_
  refine m_iadd F e_X10_takeText_140 ?_
  refine Wm.topE (w := 4) (by decide) ?_
  refine m_iald F (j := 4) e_X10_takeText_141 h_optionOf (by decide) (by unfold vp_in; decide) ?_
  refine Wm.topE (w := 0) (rfl) ?_
  refine m_iast F (j := 0) e_X10_takeText_142 h_optionOf (by decide) (by unfold vp_in; decide) upd_c (up_self h_optionOf).symm ?_
  refine m_aload_n F rfl e_X10_takeText_143 ?_
  refine m_get F e_X10_takeText_144 fl_X10_49 h_obj rfl ?_
  refine m_iload_n F rfl e_X10_takeText_147 ?_
  refine m_aload_n F rfl e_X10_takeText_148 ?_
  refine m_get F e_X10_takeText_149 fl_X10_49 h_obj rfl ?_
  refine m_iconst F (v := 4) (by decide) e_X10_takeText_152 ?_
  refine m_iload_n F rfl e_X10_takeText_153 ?_
  refine m_iadd F e_X10_takeText_154 ?_
  refine Wm.topE (w := 4) (by decide) ?_
  refine m_iald F (j := 4) e_X10_takeText_155 h_optionMany (by decide) (by unfold vp_in; decide) ?_
  refine Wm.topE (w := 0) (rfl) ?_
  refine m_iast F (j := 0) e_X10_takeText_156 h_optionMany (by decide) (by unfold vp_in; decide) upd_c (up_self h_optionMany).symm ?_
  refine m_aload_n F rfl e_X10_takeText_157 ?_
  refine m_get F e_X10_takeText_158 fl_X10_52 h_obj rfl ?_
  refine m_iload_n F rfl e_X10_takeText_161 ?_
  refine m_aload_n F rfl e_X10_takeText_162 ?_
  refine m_get F e_X10_takeText_163 fl_X10_52 h_obj rfl ?_
  refine m_iconst F (v := 4) (by decide) e_X10_takeText_166 ?_
  refine m_iload_n F rfl e_X10_takeText_167 ?_
  refine m_iadd F e_X10_takeText_168 ?_
  refine Wm.topE (w := 4) (by decide) ?_
  refine m_iald F (j := 4) e_X10_takeText_169 h_optionPays (by decide) (by unfold vp_in; decide) ?_
  refine Wm.topE (w := 0) (rfl) ?_
  refine m_iast F (j := 0) e_X10_takeText_170 h_optionPays (by decide) (by unfold vp_in; decide) upd_c (up_self h_optionPays).symm ?_
  refine m_iinc F (v := 1) (lv' := [(1, .int 1), (0, .ref m)]) e_X10_takeText_171 rfl (by decide) (by decide) rfl ?_
  refine m_goto F e_X10_takeText_174 ?_
  refine m_iload_n F rfl e_X10_takeText_26 ?_
  refine m_iconst F (v := 4) (by decide) e_X10_takeText_27 ?_
  refine m_icmp_ge F e_X10_takeText_28 (fun q => absurd q (by decide)) (fun _ => ?_)
  refine m_aload_n F rfl e_X10_takeText_31 ?_
  refine m_get F e_X10_takeText_32 fl_X10_16 h_obj rfl ?_
  refine m_iload_n F rfl e_X10_takeText_35 ?_
  refine m_aload_n F rfl e_X10_takeText_36 ?_
  refine m_get F e_X10_takeText_37 fl_X10_16 h_obj rfl ?_
  refine m_iconst F (v := 4) (by decide) e_X10_takeText_40 ?_
  refine m_iload_n F rfl e_X10_takeText_41 ?_
  refine m_iadd F e_X10_takeText_42 ?_
  refine Wm.topE (w := 5) (by decide) ?_
  refine m_iald F (j := 5) e_X10_takeText_43 h_name (by decide) (by unfold vp_in; decide) ?_
  refine Wm.topE (w := 0) (rfl) ?_
  refine m_iast F (j := 1) e_X10_takeText_44 h_name (by decide) (by unfold vp_in; decide) upd_c (up_self h_name).symm ?_
  refine m_aload_n F rfl e_X10_takeText_45 ?_
  refine m_get F e_X10_takeText_46 fl_X10_19 h_obj rfl ?_
  refine m_iload_n F rfl e_X10_takeText_49 ?_
  refine m_aload_n F rfl e_X10_takeText_50 ?_
  refine m_get F e_X10_takeText_51 fl_X10_19 h_obj rfl ?_
  refine m_iconst F (v := 4) (by decide) e_X10_takeText_54 ?_
  refine m_iload_n F rfl e_X10_takeText_55 ?_
  refine m_iadd F e_X10_takeText_56 ?_
  refine Wm.topE (w := 5) (by decide) ?_
  refine m_iald F (j := 5) e_X10_takeText_57 h_starts (by decide) (by unfold vp_in; decide) ?_
  refine Wm.topE (w := 0) (rfl) ?_
  refine m_iast F (j := 1) e_X10_takeText_58 h_starts (by decide) (by unfold vp_in; decide) upd_c (up_self h_starts).symm ?_
  refine m_aload_n F rfl e_X10_takeText_59 ?_
  refine m_get F e_X10_takeText_60 fl_X10_22 h_obj rfl ?_
  refine m_iload_n F rfl e_X10_takeText_63 ?_
  refine m_aload_n F rfl e_X10_takeText_64 ?_
  refine m_get F e_X10_takeText_65 fl_X10_22 h_obj rfl ?_
  refine m_iconst F (v := 4) (by decide) e_X10_takeText_68 ?_
  refine m_iload_n F rfl e_X10_takeText_69 ?_
  refine m_iadd F e_X10_takeText_70 ?_
  refine Wm.topE (w := 5) (by decide) ?_
  refine m_iald F (j := 5) e_X10_takeText_71 h_term (by decide) (by unfold vp_in; decide) ?_
  refine Wm.topE (w := 0) (rfl) ?_
  refine m_iast F (j := 1) e_X10_takeText_72 h_term (by decide) (by unfold vp_in; decide) upd_c (up_self h_term).symm ?_
  refine m_aload_n F rfl e_X10_takeText_73 ?_
  refine m_get F e_X10_takeText_74 fl_X10_25 h_obj rfl ?_
  refine m_iload_n F rfl e_X10_takeText_77 ?_
  refine m_aload_n F rfl e_X10_takeText_78 ?_
  refine m_get F e_X10_takeText_79 fl_X10_25 h_obj rfl ?_
  refine m_iconst F (v := 4) (by decide) e_X10_takeText_82 ?_
  refine m_iload_n F rfl e_X10_takeText_83 ?_
  refine m_iadd F e_X10_takeText_84 ?_
  refine Wm.topE (w := 5) (by decide) ?_
  refine m_iald F (j := 5) e_X10_takeText_85 h_toldRate (by decide) (by unfold vp_in; decide) ?_
  refine Wm.topE (w := 0) (rfl) ?_
  refine m_iast F (j := 1) e_X10_takeText_86 h_toldRate (by decide) (by unfold vp_in; decide) upd_c (up_self h_toldRate).symm ?_
  refine m_aload_n F rfl e_X10_takeText_87 ?_
  refine m_get F e_X10_takeText_88 fl_X10_28 h_obj rfl ?_
  refine m_iload_n F rfl e_X10_takeText_91 ?_
  refine m_aload_n F rfl e_X10_takeText_92 ?_
  refine m_get F e_X10_takeText_93 fl_X10_28 h_obj rfl ?_
  refine m_iconst F (v := 4) (by decide) e_X10_takeText_96 ?_
  refine m_iload_n F rfl e_X10_takeText_97 ?_
  refine m_iadd F e_X10_takeText_98 ?_
  refine Wm.topE (w := 5) (by decide) ?_
  refine m_iald F (j := 5) e_X10_takeText_99 h_marks (by decide) (by unfold vp_in; decide) ?_
  refine Wm.topE (w := 0) (rfl) ?_
  refine m_iast F (j := 1) e_X10_takeText_100 h_marks (by decide) (by unfold vp_in; decide) upd_c (up_self h_marks).symm ?_
  refine m_aload_n F rfl e_X10_takeText_101 ?_
  refine m_get F e_X10_takeText_102 fl_X10_31 h_obj rfl ?_
  refine m_iload_n F rfl e_X10_takeText_105 ?_
  refine m_aload_n F rfl e_X10_takeText_106 ?_
  refine m_get F e_X10_takeText_107 fl_X10_31 h_obj rfl ?_
  refine m_iconst F (v := 4) (by decide) e_X10_takeText_110 ?_
  refine m_iload_n F rfl e_X10_takeText_111 ?_
  refine m_iadd F e_X10_takeText_112 ?_
  refine Wm.topE (w := 5) (by decide) ?_
  refine m_iald F (j := 5) e_X10_takeText_113 h_fair (by decide) (by unfold vp_in; decide) ?_
  refine Wm.topE (w := 0) (rfl) ?_
  refine m_iast F (j := 1) e_X10_takeText_114 h_fair (by decide) (by unfold vp_in; decide) upd_c (up_self h_fair).symm ?_
  refine m_aload_n F rfl e_X10_takeText_115 ?_
  refine m_get F e_X10_takeText_116 fl_X10_34 h_obj rfl ?_
  refine m_iload_n F rfl e_X10_takeText_119 ?_
  refine m_aload_n F rfl e_X10_takeText_120 ?_
  refine m_get F e_X10_takeText_121 fl_X10_34 h_obj rfl ?_
  refine m_iconst F (v := 4) (by decide) e_X10_takeText_124 ?_
  refine m_iload_n F rfl e_X10_takeText_125 ?_
  refine m_iadd F e_X10_takeText_126 ?_
  refine Wm.topE (w := 5) (by decide) ?_
  refine m_iald F (j := 5) e_X10_takeText_127 h_fee (by decide) (by unfold vp_in; decide) ?_
  refine Wm.topE (w := 0) (rfl) ?_
  refine m_iast F (j := 1) e_X10_takeText_128 h_fee (by decide) (by unfold vp_in; decide) upd_c (up_self h_fee).symm ?_
  refine m_aload_n F rfl e_X10_takeText_129 ?_
  refine m_get F e_X10_takeText_130 fl_X10_46 h_obj rfl ?_
  refine m_iload_n F rfl e_X10_takeText_133 ?_
  refine m_aload_n F rfl e_X10_takeText_134 ?_
  refine m_get F e_X10_takeText_135 fl_X10_46 h_obj rfl ?_
  refine m_iconst F (v := 4) (by decide) e_X10_takeText_138 ?_
  refine m_iload_n F rfl e_X10_takeText_139 ?_
  refine m_iadd F e_X10_takeText_140 ?_
  refine Wm.topE (w := 5) (by decide) ?_
  refine m_iald F (j := 5) e_X10_takeText_141 h_optionOf (by decide) (by unfold vp_in; decide) ?_
  refine Wm.topE (w := 0) (rfl) ?_
  refine m_iast F (j := 1) e_X10_takeText_142 h_optionOf (by decide) (by unfold vp_in; decide) upd_c (up_self h_optionOf).symm ?_
  refine m_aload_n F rfl e_X10_takeText_143 ?_
  refine m_get F e_X10_takeText_144 fl_X10_49 h_obj rfl ?_
  refine m_iload_n F rfl e_X10_takeText_147 ?_
  refine m_aload_n F rfl e_X10_takeText_148 ?_
  refine m_get F e_X10_takeText_149 fl_X10_49 h_obj rfl ?_
  refine m_iconst F (v := 4) (by decide) e_X10_takeText_152 ?_
  refine m_iload_n F rfl e_X10_takeText_153 ?_
  refine m_iadd F e_X10_takeText_154 ?_
  refine Wm.topE (w := 5) (by decide) ?_
  refine m_iald F (j := 5) e_X10_takeText_155 h_optionMany (by decide) (by unfold vp_in; decide) ?_
  refine Wm.topE (w := 0) (rfl) ?_
  refine m_iast F (j := 1) e_X10_takeText_156 h_optionMany (by decide) (by unfold vp_in; decide) upd_c (up_self h_optionMany).symm ?_
  refine m_aload_n F rfl e_X10_takeText_157 ?_
  refine m_get F e_X10_takeText_158 fl_X10_52 h_obj rfl ?_
  refine m_iload_n F rfl e_X10_takeText_161 ?_
  refine m_aload_n F rfl e_X10_takeText_162 ?_
  refine m_get F e_X10_takeText_163 fl_X10_52 h_obj rfl ?_
  refine m_iconst F (v := 4) (by decide) e_X10_takeText_166 ?_
  refine m_iload_n F rfl e_X10_takeText_167 ?_
  refine m_iadd F e_X10_takeText_168 ?_
  refine Wm.topE (w := 5) (by decide) ?_
  refine m_iald F (j := 5) e_X10_takeText_169 h_optionPays (by decide) (by unfold vp_in; decide) ?_
  refine Wm.topE (w := 0) (rfl) ?_
  refine m_iast F (j := 1) e_X10_takeText_170 h_optionPays (by decide) (by unfold vp_in; decide) upd_c (up_self h_optionPays).symm ?_
  refine m_iinc F (v := 2) (lv' := [(1, .int 2), (0, .ref m)]) e_X10_takeText_171 rfl (by decide) (by decide) rfl ?_
  refine m_goto F e_X10_takeText_174 ?_
  refine m_iload_n F rfl e_X10_takeText_26 ?_
  refine m_iconst F (v := 4) (by decide) e_X10_takeText_27 ?_
  refine m_icmp_ge F e_X10_takeText_28 (fun q => absurd q (by decide)) (fun _ => ?_)
  refine m_aload_n F rfl e_X10_takeText_31 ?_
  refine m_get F e_X10_takeText_32 fl_X10_16 h_obj rfl ?_
  refine m_iload_n F rfl e_X10_takeText_35 ?_
  refine m_aload_n F rfl e_X10_takeText_36 ?_
  refine m_get F e_X10_takeText_37 fl_X10_16 h_obj rfl ?_
  refine m_iconst F (v := 4) (by decide) e_X10_takeText_40 ?_
  refine m_iload_n F rfl e_X10_takeText_41 ?_
  refine m_iadd F e_X10_takeText_42 ?_
  refine Wm.topE (w := 6) (by decide) ?_
  refine m_iald F (j := 6) e_X10_takeText_43 h_name (by decide) (by unfold vp_in; decide) ?_
  refine Wm.topE (w := 0) (rfl) ?_
  refine m_iast F (j := 2) e_X10_takeText_44 h_name (by decide) (by unfold vp_in; decide) upd_c (up_self h_name).symm ?_
  refine m_aload_n F rfl e_X10_takeText_45 ?_
  refine m_get F e_X10_takeText_46 fl_X10_19 h_obj rfl ?_
  refine m_iload_n F rfl e_X10_takeText_49 ?_
  refine m_aload_n F rfl e_X10_takeText_50 ?_
  refine m_get F e_X10_takeText_51 fl_X10_19 h_obj rfl ?_
  refine m_iconst F (v := 4) (by decide) e_X10_takeText_54 ?_
  refine m_iload_n F rfl e_X10_takeText_55 ?_
  refine m_iadd F e_X10_takeText_56 ?_
  refine Wm.topE (w := 6) (by decide) ?_
  refine m_iald F (j := 6) e_X10_takeText_57 h_starts (by decide) (by unfold vp_in; decide) ?_
  refine Wm.topE (w := 0) (rfl) ?_
  refine m_iast F (j := 2) e_X10_takeText_58 h_starts (by decide) (by unfold vp_in; decide) upd_c (up_self h_starts).symm ?_
  refine m_aload_n F rfl e_X10_takeText_59 ?_
  refine m_get F e_X10_takeText_60 fl_X10_22 h_obj rfl ?_
  refine m_iload_n F rfl e_X10_takeText_63 ?_
  refine m_aload_n F rfl e_X10_takeText_64 ?_
  refine m_get F e_X10_takeText_65 fl_X10_22 h_obj rfl ?_
  refine m_iconst F (v := 4) (by decide) e_X10_takeText_68 ?_
  refine m_iload_n F rfl e_X10_takeText_69 ?_
  refine m_iadd F e_X10_takeText_70 ?_
  refine Wm.topE (w := 6) (by decide) ?_
  refine m_iald F (j := 6) e_X10_takeText_71 h_term (by decide) (by unfold vp_in; decide) ?_
  refine Wm.topE (w := 0) (rfl) ?_
  refine m_iast F (j := 2) e_X10_takeText_72 h_term (by decide) (by unfold vp_in; decide) upd_c (up_self h_term).symm ?_
  refine m_aload_n F rfl e_X10_takeText_73 ?_
  refine m_get F e_X10_takeText_74 fl_X10_25 h_obj rfl ?_
  refine m_iload_n F rfl e_X10_takeText_77 ?_
  refine m_aload_n F rfl e_X10_takeText_78 ?_
  refine m_get F e_X10_takeText_79 fl_X10_25 h_obj rfl ?_
  refine m_iconst F (v := 4) (by decide) e_X10_takeText_82 ?_
  refine m_iload_n F rfl e_X10_takeText_83 ?_
  refine m_iadd F e_X10_takeText_84 ?_
  refine Wm.topE (w := 6) (by decide) ?_
  refine m_iald F (j := 6) e_X10_takeText_85 h_toldRate (by decide) (by unfold vp_in; decide) ?_
  refine Wm.topE (w := 0) (rfl) ?_
  refine m_iast F (j := 2) e_X10_takeText_86 h_toldRate (by decide) (by unfold vp_in; decide) upd_c (up_self h_toldRate).symm ?_
  refine m_aload_n F rfl e_X10_takeText_87 ?_
  refine m_get F e_X10_takeText_88 fl_X10_28 h_obj rfl ?_
  refine m_iload_n F rfl e_X10_takeText_91 ?_
  refine m_aload_n F rfl e_X10_takeText_92 ?_
  refine m_get F e_X10_takeText_93 fl_X10_28 h_obj rfl ?_
  refine m_iconst F (v := 4) (by decide) e_X10_takeText_96 ?_
  refine m_iload_n F rfl e_X10_takeText_97 ?_
  refine m_iadd F e_X10_takeText_98 ?_
  refine Wm.topE (w := 6) (by decide) ?_
  refine m_iald F (j := 6) e_X10_takeText_99 h_marks (by decide) (by unfold vp_in; decide) ?_
  refine Wm.topE (w := 0) (rfl) ?_
  refine m_iast F (j := 2) e_X10_takeText_100 h_marks (by decide) (by unfold vp_in; decide) upd_c (up_self h_marks).symm ?_
  refine m_aload_n F rfl e_X10_takeText_101 ?_
  refine m_get F e_X10_takeText_102 fl_X10_31 h_obj rfl ?_
  refine m_iload_n F rfl e_X10_takeText_105 ?_
  refine m_aload_n F rfl e_X10_takeText_106 ?_
  refine m_get F e_X10_takeText_107 fl_X10_31 h_obj rfl ?_
  refine m_iconst F (v := 4) (by decide) e_X10_takeText_110 ?_
  refine m_iload_n F rfl e_X10_takeText_111 ?_
  refine m_iadd F e_X10_takeText_112 ?_
  refine Wm.topE (w := 6) (by decide) ?_
  refine m_iald F (j := 6) e_X10_takeText_113 h_fair (by decide) (by unfold vp_in; decide) ?_
  refine Wm.topE (w := 0) (rfl) ?_
  refine m_iast F (j := 2) e_X10_takeText_114 h_fair (by decide) (by unfold vp_in; decide) upd_c (up_self h_fair).symm ?_
  refine m_aload_n F rfl e_X10_takeText_115 ?_
  refine m_get F e_X10_takeText_116 fl_X10_34 h_obj rfl ?_
  refine m_iload_n F rfl e_X10_takeText_119 ?_
  refine m_aload_n F rfl e_X10_takeText_120 ?_
  refine m_get F e_X10_takeText_121 fl_X10_34 h_obj rfl ?_
  refine m_iconst F (v := 4) (by decide) e_X10_takeText_124 ?_
  refine m_iload_n F rfl e_X10_takeText_125 ?_
  refine m_iadd F e_X10_takeText_126 ?_
  refine Wm.topE (w := 6) (by decide) ?_
  refine m_iald F (j := 6) e_X10_takeText_127 h_fee (by decide) (by unfold vp_in; decide) ?_
  refine Wm.topE (w := 0) (rfl) ?_
  refine m_iast F (j := 2) e_X10_takeText_128 h_fee (by decide) (by unfold vp_in; decide) upd_c (up_self h_fee).symm ?_
  refine m_aload_n F rfl e_X10_takeText_129 ?_
  refine m_get F e_X10_takeText_130 fl_X10_46 h_obj rfl ?_
  refine m_iload_n F rfl e_X10_takeText_133 ?_
  refine m_aload_n F rfl e_X10_takeText_134 ?_
  refine m_get F e_X10_takeText_135 fl_X10_46 h_obj rfl ?_
  refine m_iconst F (v := 4) (by decide) e_X10_takeText_138 ?_
  refine m_iload_n F rfl e_X10_takeText_139 ?_
  refine m_iadd F e_X10_takeText_140 ?_
  refine Wm.topE (w := 6) (by decide) ?_
  refine m_iald F (j := 6) e_X10_takeText_141 h_optionOf (by decide) (by unfold vp_in; decide) ?_
  refine Wm.topE (w := 0) (rfl) ?_
  refine m_iast F (j := 2) e_X10_takeText_142 h_optionOf (by decide) (by unfold vp_in; decide) upd_c (up_self h_optionOf).symm ?_
  refine m_aload_n F rfl e_X10_takeText_143 ?_
  refine m_get F e_X10_takeText_144 fl_X10_49 h_obj rfl ?_
  refine m_iload_n F rfl e_X10_takeText_147 ?_
  refine m_aload_n F rfl e_X10_takeText_148 ?_
  refine m_get F e_X10_takeText_149 fl_X10_49 h_obj rfl ?_
  refine m_iconst F (v := 4) (by decide) e_X10_takeText_152 ?_
  refine m_iload_n F rfl e_X10_takeText_153 ?_
  refine m_iadd F e_X10_takeText_154 ?_
  refine Wm.topE (w := 6) (by decide) ?_
  refine m_iald F (j := 6) e_X10_takeText_155 h_optionMany (by decide) (by unfold vp_in; decide) ?_
  refine Wm.topE (w := 0) (rfl) ?_
  refine m_iast F (j := 2) e_X10_takeText_156 h_optionMany (by decide) (by unfold vp_in; decide) upd_c (up_self h_optionMany).symm ?_
  refine m_aload_n F rfl e_X10_takeText_157 ?_
  refine m_get F e_X10_takeText_158 fl_X10_52 h_obj rfl ?_
  refine m_iload_n F rfl e_X10_takeText_161 ?_
  refine m_aload_n F rfl e_X10_takeText_162 ?_
  refine m_get F e_X10_takeText_163 fl_X10_52 h_obj rfl ?_
  refine m_iconst F (v := 4) (by decide) e_X10_takeText_166 ?_
  refine m_iload_n F rfl e_X10_takeText_167 ?_
  refine m_iadd F e_X10_takeText_168 ?_
  refine Wm.topE (w := 6) (by decide) ?_
  refine m_iald F (j := 6) e_X10_takeText_169 h_optionPays (by decide) (by unfold vp_in; decide) ?_
  refine Wm.topE (w := 0) (rfl) ?_
  refine m_iast F (j := 2) e_X10_takeText_170 h_optionPays (by decide) (by unfold vp_in; decide) upd_c (up_self h_optionPays).symm ?_
  refine m_iinc F (v := 3) (lv' := [(1, .int 3), (0, .ref m)]) e_X10_takeText_171 rfl (by decide) (by decide) rfl ?_
  refine m_goto F e_X10_takeText_174 ?_
  refine m_iload_n F rfl e_X10_takeText_26 ?_
  refine m_iconst F (v := 4) (by decide) e_X10_takeText_27 ?_
  refine m_icmp_ge F e_X10_takeText_28 (fun q => absurd q (by decide)) (fun _ => ?_)
  refine m_aload_n F rfl e_X10_takeText_31 ?_
  refine m_get F e_X10_takeText_32 fl_X10_16 h_obj rfl ?_
  refine m_iload_n F rfl e_X10_takeText_35 ?_
  refine m_aload_n F rfl e_X10_takeText_36 ?_
  refine m_get F e_X10_takeText_37 fl_X10_16 h_obj rfl ?_
  refine m_iconst F (v := 4) (by decide) e_X10_takeText_40 ?_
  refine m_iload_n F rfl e_X10_takeText_41 ?_
  refine m_iadd F e_X10_takeText_42 ?_
  refine Wm.topE (w := 7) (by decide) ?_
  refine m_iald F (j := 7) e_X10_takeText_43 h_name (by decide) (by unfold vp_in; decide) ?_
  refine Wm.topE (w := 0) (rfl) ?_
  refine m_iast F (j := 3) e_X10_takeText_44 h_name (by decide) (by unfold vp_in; decide) upd_c (up_self h_name).symm ?_
  refine m_aload_n F rfl e_X10_takeText_45 ?_
  refine m_get F e_X10_takeText_46 fl_X10_19 h_obj rfl ?_
  refine m_iload_n F rfl e_X10_takeText_49 ?_
  refine m_aload_n F rfl e_X10_takeText_50 ?_
  refine m_get F e_X10_takeText_51 fl_X10_19 h_obj rfl ?_
  refine m_iconst F (v := 4) (by decide) e_X10_takeText_54 ?_
  refine m_iload_n F rfl e_X10_takeText_55 ?_
  refine m_iadd F e_X10_takeText_56 ?_
  refine Wm.topE (w := 7) (by decide) ?_
  refine m_iald F (j := 7) e_X10_takeText_57 h_starts (by decide) (by unfold vp_in; decide) ?_
  refine Wm.topE (w := 0) (rfl) ?_
  refine m_iast F (j := 3) e_X10_takeText_58 h_starts (by decide) (by unfold vp_in; decide) upd_c (up_self h_starts).symm ?_
  refine m_aload_n F rfl e_X10_takeText_59 ?_
  refine m_get F e_X10_takeText_60 fl_X10_22 h_obj rfl ?_
  refine m_iload_n F rfl e_X10_takeText_63 ?_
  refine m_aload_n F rfl e_X10_takeText_64 ?_
  refine m_get F e_X10_takeText_65 fl_X10_22 h_obj rfl ?_
  refine m_iconst F (v := 4) (by decide) e_X10_takeText_68 ?_
  refine m_iload_n F rfl e_X10_takeText_69 ?_
  refine m_iadd F e_X10_takeText_70 ?_
  refine Wm.topE (w := 7) (by decide) ?_
  refine m_iald F (j := 7) e_X10_takeText_71 h_term (by decide) (by unfold vp_in; decide) ?_
  refine Wm.topE (w := 0) (rfl) ?_
  refine m_iast F (j := 3) e_X10_takeText_72 h_term (by decide) (by unfold vp_in; decide) upd_c (up_self h_term).symm ?_
  refine m_aload_n F rfl e_X10_takeText_73 ?_
  refine m_get F e_X10_takeText_74 fl_X10_25 h_obj rfl ?_
  refine m_iload_n F rfl e_X10_takeText_77 ?_
  refine m_aload_n F rfl e_X10_takeText_78 ?_
  refine m_get F e_X10_takeText_79 fl_X10_25 h_obj rfl ?_
  refine m_iconst F (v := 4) (by decide) e_X10_takeText_82 ?_
  refine m_iload_n F rfl e_X10_takeText_83 ?_
  refine m_iadd F e_X10_takeText_84 ?_
  refine Wm.topE (w := 7) (by decide) ?_
  refine m_iald F (j := 7) e_X10_takeText_85 h_toldRate (by decide) (by unfold vp_in; decide) ?_
  refine Wm.topE (w := 0) (rfl) ?_
  refine m_iast F (j := 3) e_X10_takeText_86 h_toldRate (by decide) (by unfold vp_in; decide) upd_c (up_self h_toldRate).symm ?_
  refine m_aload_n F rfl e_X10_takeText_87 ?_
  refine m_get F e_X10_takeText_88 fl_X10_28 h_obj rfl ?_
  refine m_iload_n F rfl e_X10_takeText_91 ?_
  refine m_aload_n F rfl e_X10_takeText_92 ?_
  refine m_get F e_X10_takeText_93 fl_X10_28 h_obj rfl ?_
  refine m_iconst F (v := 4) (by decide) e_X10_takeText_96 ?_
  refine m_iload_n F rfl e_X10_takeText_97 ?_
  refine m_iadd F e_X10_takeText_98 ?_
  refine Wm.topE (w := 7) (by decide) ?_
  refine m_iald F (j := 7) e_X10_takeText_99 h_marks (by decide) (by unfold vp_in; decide) ?_
  refine Wm.topE (w := 0) (rfl) ?_
  refine m_iast F (j := 3) e_X10_takeText_100 h_marks (by decide) (by unfold vp_in; decide) upd_c (up_self h_marks).symm ?_
  refine m_aload_n F rfl e_X10_takeText_101 ?_
  refine m_get F e_X10_takeText_102 fl_X10_31 h_obj rfl ?_
  refine m_iload_n F rfl e_X10_takeText_105 ?_
  refine m_aload_n F rfl e_X10_takeText_106 ?_
  refine m_get F e_X10_takeText_107 fl_X10_31 h_obj rfl ?_
  refine m_iconst F (v := 4) (by decide) e_X10_takeText_110 ?_
  refine m_iload_n F rfl e_X10_takeText_111 ?_
  refine m_iadd F e_X10_takeText_112 ?_
  refine Wm.topE (w := 7) (by decide) ?_
  refine m_iald F (j := 7) e_X10_takeText_113 h_fair (by decide) (by unfold vp_in; decide) ?_
  refine Wm.topE (w := 0) (rfl) ?_
  refine m_iast F (j := 3) e_X10_takeText_114 h_fair (by decide) (by unfold vp_in; decide) upd_c (up_self h_fair).symm ?_
  refine m_aload_n F rfl e_X10_takeText_115 ?_
  refine m_get F e_X10_takeText_116 fl_X10_34 h_obj rfl ?_
  refine m_iload_n F rfl e_X10_takeText_119 ?_
  refine m_aload_n F rfl e_X10_takeText_120 ?_
  refine m_get F e_X10_takeText_121 fl_X10_34 h_obj rfl ?_
  refine m_iconst F (v := 4) (by decide) e_X10_takeText_124 ?_
  refine m_iload_n F rfl e_X10_takeText_125 ?_
  refine m_iadd F e_X10_takeText_126 ?_
  refine Wm.topE (w := 7) (by decide) ?_
  refine m_iald F (j := 7) e_X10_takeText_127 h_fee (by decide) (by unfold vp_in; decide) ?_
  refine Wm.topE (w := 0) (rfl) ?_
  refine m_iast F (j := 3) e_X10_takeText_128 h_fee (by decide) (by unfold vp_in; decide) upd_c (up_self h_fee).symm ?_
  refine m_aload_n F rfl e_X10_takeText_129 ?_
  refine m_get F e_X10_takeText_130 fl_X10_46 h_obj rfl ?_
  refine m_iload_n F rfl e_X10_takeText_133 ?_
  refine m_aload_n F rfl e_X10_takeText_134 ?_
  refine m_get F e_X10_takeText_135 fl_X10_46 h_obj rfl ?_
  refine m_iconst F (v := 4) (by decide) e_X10_takeText_138 ?_
  refine m_iload_n F rfl e_X10_takeText_139 ?_
  refine m_iadd F e_X10_takeText_140 ?_
  refine Wm.topE (w := 7) (by decide) ?_
  refine m_iald F (j := 7) e_X10_takeText_141 h_optionOf (by decide) (by unfold vp_in; decide) ?_
  refine Wm.topE (w := 0) (rfl) ?_
  refine m_iast F (j := 3) e_X10_takeText_142 h_optionOf (by decide) (by unfold vp_in; decide) upd_c (up_self h_optionOf).symm ?_
  refine m_aload_n F rfl e_X10_takeText_143 ?_
  refine m_get F e_X10_takeText_144 fl_X10_49 h_obj rfl ?_
  refine m_iload_n F rfl e_X10_takeText_147 ?_
  refine m_aload_n F rfl e_X10_takeText_148 ?_
  refine m_get F e_X10_takeText_149 fl_X10_49 h_obj rfl ?_
  refine m_iconst F (v := 4) (by decide) e_X10_takeText_152 ?_
  refine m_iload_n F rfl e_X10_takeText_153 ?_
  refine m_iadd F e_X10_takeText_154 ?_
  refine Wm.topE (w := 7) (by decide) ?_
  refine m_iald F (j := 7) e_X10_takeText_155 h_optionMany (by decide) (by unfold vp_in; decide) ?_
  refine Wm.topE (w := 0) (rfl) ?_
  refine m_iast F (j := 3) e_X10_takeText_156 h_optionMany (by decide) (by unfold vp_in; decide) upd_c (up_self h_optionMany).symm ?_
  refine m_aload_n F rfl e_X10_takeText_157 ?_
  refine m_get F e_X10_takeText_158 fl_X10_52 h_obj rfl ?_
  refine m_iload_n F rfl e_X10_takeText_161 ?_
  refine m_aload_n F rfl e_X10_takeText_162 ?_
  refine m_get F e_X10_takeText_163 fl_X10_52 h_obj rfl ?_
  refine m_iconst F (v := 4) (by decide) e_X10_takeText_166 ?_
  refine m_iload_n F rfl e_X10_takeText_167 ?_
  refine m_iadd F e_X10_takeText_168 ?_
  refine Wm.topE (w := 7) (by decide) ?_
  refine m_iald F (j := 7) e_X10_takeText_169 h_optionPays (by decide) (by unfold vp_in; decide) ?_
  refine Wm.topE (w := 0) (rfl) ?_
  refine m_iast F (j := 3) e_X10_takeText_170 h_optionPays (by decide) (by unfold vp_in; decide) upd_c (up_self h_optionPays).symm ?_
  refine m_iinc F (v := 4) (lv' := [(1, .int 4), (0, .ref m)]) e_X10_takeText_171 rfl (by decide) (by decide) rfl ?_
  refine m_goto F e_X10_takeText_174 ?_
  refine m_iload_n F rfl e_X10_takeText_26 ?_
  refine m_iconst F (v := 4) (by decide) e_X10_takeText_27 ?_
  refine m_icmp_ge F e_X10_takeText_28 (fun _ => ?_) (fun q => absurd (by decide) q)
  refine m_iconst F (v := 0) (by decide) e_X10_takeText_177 ?_
  refine m_istore_n F (lv' := [(1, .int 0), (0, .ref m)]) e_X10_takeText_178 (by decide) rfl ?_
  exact lp_takeText0 F hQ h_obj h_number h_name h_starts h_term h_toldRate h_marks h_fair h_fee h_toldPay h_changeAt h_changeTo h_optionOf h_optionMany h_optionPays ⟨rfl, rfl⟩ 193 0 (by omega) (by omega)
set_option maxRecDepth 20000 in
theorem lp_begins1 {V : VX} {X : MX} {N : Nat} {σ : Mem} (F : Fx V X yX10_begins cX10_begins 4 none (rmd 1 0 0)) {m : Nat} {v_thrown v_taped v_lines v_size v_at v_place v_sort v_value v_fault v_faultPlace v_lastFault v_lastPlace v_undoable v_hasImage v_drawn : Int32} (h_obj : σ m = some (ob 8 [.int v_thrown, .ref (m + 1), .int v_taped, .ref (m + 2), .ref (m + 3), .ref (m + 4), .ref (m + 5), .ref (m + 6), .ref (m + 7), .ref (m + 8), .ref (m + 9), .ref (m + 10), .ref (m + 11), .ref (m + 12), .ref (m + 13), .ref (m + 14), .ref (m + 15), .int v_lines, .int v_size, .int v_at, .int v_place, .int v_sort, .int v_value, .int v_fault, .int v_faultPlace, .int v_lastFault, .int v_lastPlace, .ref (m + 16), .ref (m + 17), .ref (m + 18), .ref (m + 19), .ref (m + 20), .int v_undoable, .int v_hasImage, .ref (m + 21), .ref (m + 22), .int v_drawn])) (h_number : σ (m + 2) = some (aI V 10 (fun _ => 0))) {f : Nat → Int64} (hk : Wm V X 4 N (va_up σ (m + 16) (some (aJ V 1113 (fillJ f 0 0 1113)))) 0 0 22 [(1, .int (nI 1113)), (0, .ref m)] []) : ∀ n i : Nat, i ≤ 1113 → 1113 - i < n → Wm V X 4 N (va_up σ (m + 16) (some (aJ V 1113 (fillJ f 0 0 i)))) 0 0 2 [(1, .int (nI i)), (0, .ref m)] [] := by
  intro n
  induction n with
  | zero => intro i h1 h2; exact absurd h2 (by omega)
  | succ n ih =>
    intro i h1 h2
    refine m_iload_n F rfl e_X10_begins_2 ?_
    refine m_sipush F (v := 1113) (by decide) e_X10_begins_3 ?_
    refine m_icmp_ge F e_X10_begins_6 (fun q6 => ?_) (fun q6 => ?_)
    · have c6 : i ≥ 1113 := (nI_leI (a := 1113) (b := i) (by omega) (by omega)).mp q6
      have hi : i = 1113 := by omega
      subst hi
      exact hk
    · have c6 : i < 1113 := by have hh := mt (nI_leI (a := 1113) (b := i) (by omega) (by omega)).mpr q6; omega
      refine m_aload_n F rfl e_X10_begins_9 ?_
      refine m_get F e_X10_begins_10 fl_X10_59 (ru_ne (by omega) h_obj) rfl ?_
      refine m_iload_n F rfl e_X10_begins_13 ?_
      refine m_lconst F (v := 0) (by decide) e_X10_begins_14 ?_
      refine m_last F (j := i) e_X10_begins_15 ru_eq (nI_clamp (by omega)) (vp_in_nI (by omega) (by omega)) rfl (bx_uu _ _ _ _) ?_
      refine m_iinc F (v := nI (i + 1)) (lv' := [(1, .int (nI (i + 1))), (0, .ref m)]) e_X10_begins_16 rfl (nI_add i 1) (by decide) rfl ?_
      refine m_goto F e_X10_begins_19 ?_
      refine Wm.memE (congrArg (fun g => va_up σ (m + 16) (some (aJ V 1113 g))) (fillJ_upd (by omega))) ?_
      exact ih (i + 1) (by omega) (by omega)
set_option maxRecDepth 20000 in
theorem lp_begins2 {V : VX} {X : MX} {N : Nat} {σ : Mem} {Post : Option Value → Mem → Prop} (F : Fx V X yX10_begins cX10_begins 4 none (rmd 1 0 0)) (hQ : Rt V X 0 0 N Post) {m : Nat} {v_thrown v_taped v_lines v_size v_at v_place v_sort v_value v_fault v_faultPlace v_lastFault v_lastPlace v_undoable v_hasImage v_drawn : Int32} (h_obj : σ m = some (ob 8 [.int v_thrown, .ref (m + 1), .int v_taped, .ref (m + 2), .ref (m + 3), .ref (m + 4), .ref (m + 5), .ref (m + 6), .ref (m + 7), .ref (m + 8), .ref (m + 9), .ref (m + 10), .ref (m + 11), .ref (m + 12), .ref (m + 13), .ref (m + 14), .ref (m + 15), .int v_lines, .int v_size, .int v_at, .int v_place, .int v_sort, .int v_value, .int v_fault, .int v_faultPlace, .int v_lastFault, .int v_lastPlace, .ref (m + 16), .ref (m + 17), .ref (m + 18), .ref (m + 19), .ref (m + 20), .int v_undoable, .int v_hasImage, .ref (m + 21), .ref (m + 22), .int v_drawn])) (h_number : σ (m + 2) = some (aI V 10 (fun _ => 0))) {f : Nat → Int64} (hp : Post none (va_up σ (m + 16) (some (aJ V 1113 (fillJ f 1000 644 (644 + 100)))))) : ∀ n i : Nat, i ≤ 100 → 100 - i < n → Wm V X 4 N (va_up σ (m + 16) (some (aJ V 1113 (fillJ f 1000 644 (644 + i))))) 0 0 24 [(1, .int (nI i)), (0, .ref m)] [] := by
  intro n
  induction n with
  | zero => intro i h1 h2; exact absurd h2 (by omega)
  | succ n ih =>
    intro i h1 h2
    refine m_iload_n F rfl e_X10_begins_24 ?_
    refine m_bipush F (v := 99) (by decide) e_X10_begins_25 ?_
    refine m_icmp_gt F e_X10_begins_27 (fun q27 => ?_) (fun q27 => ?_)
    · have c27 : i > 99 := (nI_ltI (a := 99) (b := i) (by omega) (by omega)).mp q27
      have hi : i = 100 := by omega
      subst hi
      refine m_iconst F (v := 0) (by decide) e_X10_begins_94 ?_
      refine m_istore_n F (lv' := [(1, .int 0), (0, .ref m)]) e_X10_begins_95 (by decide) rfl ?_
      refine m_iload_n F rfl e_X10_begins_96 ?_
      refine m_aload_n F rfl e_X10_begins_97 ?_
      refine m_callV F e_X10_begins_98 (k_leases0 (x_l X) V _ _ m v_thrown v_taped v_lines v_size v_at v_place v_sort v_value v_fault v_faultPlace v_lastFault v_lastPlace v_undoable v_hasImage v_drawn  (ru_ne (by omega) h_obj) (ru_ne (by omega) h_number) ) cb_X10_leases ml_X10_221 im_X10_leases se_X10_leases (ru_ne (by omega) h_obj) rfl rfl (rest := [.int 0]) rfl (Nat.le_of_ble_eq_true rfl) ⟨Nat.le_of_ble_eq_true rfl, Nat.le_of_ble_eq_true rfl⟩ ⟨Nat.le_of_ble_eq_true rfl, Nat.le_of_ble_eq_true rfl⟩ (k' := 0) (z' := 0) (N' := N) rfl rfl rfl (fun r τ hp => ?_)
      obtain ⟨rfl, rfl⟩ := hp
      refine m_icmp_ge F e_X10_begins_101 (fun _ => ?_) (fun q => absurd (by decide) q)
      exact m_vret F hQ e_X10_begins_274 (hp)
    · have c27 : i ≤ 99 := by have hh := mt (nI_ltI (a := 99) (b := i) (by omega) (by omega)).mpr q27; omega
      refine m_aload_n F rfl e_X10_begins_30 ?_
      refine m_get F e_X10_begins_31 fl_X10_59 (ru_ne (by omega) h_obj) rfl ?_
      refine m_sipush F (v := 644) (by decide) e_X10_begins_34 ?_
      refine m_iload_n F rfl e_X10_begins_37 ?_
      refine m_iadd F e_X10_begins_38 ?_
      refine Wm.topE (w := nI (644 + i)) (nI_add 644 i) ?_
      refine m_ldc2 F kc_X10_224 e_X10_begins_39 ?_
      refine m_last F (j := 644 + i) e_X10_begins_42 ru_eq (nI_clamp (by omega)) (vp_in_nI (by omega) (by omega)) rfl (bx_uu _ _ _ _) ?_
      refine m_iconst F (v := 0) (by decide) e_X10_begins_43 ?_
      refine m_istore_n F (lv' := [(2, .int 0), (1, .int (nI i)), (0, .ref m)]) e_X10_begins_44 (by decide) rfl ?_
      refine m_iload_n F rfl e_X10_begins_45 ?_
      refine m_aload_n F rfl e_X10_begins_46 ?_
      refine m_get F e_X10_begins_47 fl_X10_13 (ru_ne (by omega) h_obj) rfl ?_
      refine m_iconst F (v := 2) (by decide) e_X10_begins_50 ?_
      refine m_iald F (j := 2) e_X10_begins_51 (ru_ne (by omega) h_number) (by decide) (by unfold vp_in; decide) ?_
      refine Wm.topE (w := 0) (rfl) ?_
      refine m_icmp_ge F e_X10_begins_52 (fun _ => ?_) (fun q => absurd (by decide) q)
      refine m_iinc F (v := nI (i + 1)) (lv' := [(1, .int (nI (i + 1))), (2, .int 0), (0, .ref m)]) e_X10_begins_88 rfl (nI_add i 1) (by decide) rfl ?_
      refine m_goto F e_X10_begins_91 ?_
      refine Wm.lvsub (lv' := [(1, .int (nI (i + 1))), (0, .ref m)]) ?_ [0, 2] rfl
      refine Wm.memE (congrArg (fun g => va_up σ (m + 16) (some (aJ V 1113 g))) (fillJ_upd (by omega))) ?_
      exact ih (i + 1) (by omega) (by omega)
set_option maxRecDepth 20000 in
theorem k_begins0 (l : Launch) (V : VX) (N : Nat) (σ : Mem) (m : Nat) (v_thrown v_taped v_lines v_size v_at v_place v_sort v_value v_fault v_faultPlace v_lastFault v_lastPlace v_undoable v_hasImage v_drawn : Int32) (f : Nat → Int64) (h_obj : σ m = some (ob 8 [.int v_thrown, .ref (m + 1), .int v_taped, .ref (m + 2), .ref (m + 3), .ref (m + 4), .ref (m + 5), .ref (m + 6), .ref (m + 7), .ref (m + 8), .ref (m + 9), .ref (m + 10), .ref (m + 11), .ref (m + 12), .ref (m + 13), .ref (m + 14), .ref (m + 15), .int v_lines, .int v_size, .int v_at, .int v_place, .int v_sort, .int v_value, .int v_fault, .int v_faultPlace, .int v_lastFault, .int v_lastPlace, .ref (m + 16), .ref (m + 17), .ref (m + 18), .ref (m + 19), .ref (m + 20), .int v_undoable, .int v_hasImage, .ref (m + 21), .ref (m + 22), .int v_drawn])) (h_number : σ (m + 2) = some (aI V 10 (fun _ => 0))) (h_s : σ (m + 16) = some (aJ V 1113 f))  : Ct l V yX10_begins cX10_begins 4 none 1 0 0 N σ [.ref m] (fun r τ => r = none ∧ τ = va_up σ (m + 16) (some (aJ V 1113 sZ))) := by
  refine Ct.of (by decide) (Nat.le_of_ble_eq_true rfl) [(0, .ref m)] rfl (fun X hX F hQ => ?_)
  refine m_iconst F (v := 0) (by decide) e_X10_begins_0 ?_
  refine m_istore_n F (lv' := [(1, .int 0), (0, .ref m)]) e_X10_begins_1 (by decide) rfl ?_
  refine Wm.memE (up_self h_s) ?_
  refine Wm.memE (congrArg (fun g => va_up σ (m + 16) (some (aJ V 1113 g))) (fillJ_0 (lo := 0) (v := 0)).symm) ?_
  refine lp_begins1 F h_obj h_number ?_ 1114 0 (by omega) (by omega)
  refine reJ (g := (fun _ => 0)) (fun j hj => by simp only [fillJ]; rw [if_pos ⟨Nat.zero_le _, hj⟩]) ?_
  refine m_iconst F (v := 0) (by decide) e_X10_begins_22 ?_
  refine m_istore_n F (lv' := [(1, .int 0), (0, .ref m)]) e_X10_begins_23 (by decide) rfl ?_
  refine Wm.memE (congrArg (fun g => va_up σ (m + 16) (some (aJ V 1113 g))) (fillJ_0 (lo := 644) (v := 1000)).symm) ?_
  exact lp_begins2 F hQ h_obj h_number ⟨rfl, rfl⟩ 101 0 (by omega) (by omega)
end
section
theorem e_X10_init_0 : DC cX10_init 0 1 1 (.aload_n 0) := ⟨by decide +kernel, rfl⟩
theorem e_X10_init_1 : DC cX10_init 1 3 4 (.invokespecial 1) := ⟨by decide +kernel, rfl⟩
theorem ml_X10_1 : Cond.methodLink RX10 1 objectInit ∈ tb := tb_in 1415 (by decide +kernel) (by decide +kernel)
theorem e_X10_init_4 : DC cX10_init 4 1 5 (.aload_n 0) := ⟨by decide +kernel, rfl⟩
theorem e_X10_init_5 : DC cX10_init 5 3 8 (.sipush 700) := ⟨by decide +kernel, rfl⟩
theorem e_X10_init_8 : DC cX10_init 8 2 10 (.newarray .int) := ⟨by decide +kernel, rfl⟩
theorem e_X10_init_10 : DC cX10_init 10 3 13 (.putfield 7) := ⟨by decide +kernel, rfl⟩
theorem fp_X10_7 : FP RX10 7 8 1 true (.array .int) := ⟨RX10, TX10, 37, tyX10, rfl, by decide, uw_8, tb_in 1461 (by decide +kernel) (by decide +kernel), rfl, rfl, by decide +kernel, tyX10_ok, nmX10⟩
theorem e_X10_init_13 : DC cX10_init 13 1 14 (.aload_n 0) := ⟨by decide +kernel, rfl⟩
theorem e_X10_init_14 : DC cX10_init 14 2 16 (.bipush 10) := ⟨by decide +kernel, rfl⟩
theorem e_X10_init_16 : DC cX10_init 16 2 18 (.newarray .int) := ⟨by decide +kernel, rfl⟩
theorem e_X10_init_18 : DC cX10_init 18 3 21 (.putfield 13) := ⟨by decide +kernel, rfl⟩
theorem fp_X10_13 : FP RX10 13 8 3 true (.array .int) := ⟨RX10, TX10, 37, tyX10, rfl, by decide, uw_8, tb_in 1463 (by decide +kernel) (by decide +kernel), rfl, rfl, by decide +kernel, tyX10_ok, nmX10⟩
theorem e_X10_init_21 : DC cX10_init 21 1 22 (.aload_n 0) := ⟨by decide +kernel, rfl⟩
theorem e_X10_init_22 : DC cX10_init 22 2 24 (.bipush 8) := ⟨by decide +kernel, rfl⟩
theorem e_X10_init_24 : DC cX10_init 24 2 26 (.newarray .int) := ⟨by decide +kernel, rfl⟩
theorem e_X10_init_26 : DC cX10_init 26 3 29 (.putfield 16) := ⟨by decide +kernel, rfl⟩
theorem fp_X10_16 : FP RX10 16 8 4 true (.array .int) := ⟨RX10, TX10, 37, tyX10, rfl, by decide, uw_8, tb_in 1464 (by decide +kernel) (by decide +kernel), rfl, rfl, by decide +kernel, tyX10_ok, nmX10⟩
theorem e_X10_init_29 : DC cX10_init 29 1 30 (.aload_n 0) := ⟨by decide +kernel, rfl⟩
theorem e_X10_init_30 : DC cX10_init 30 2 32 (.bipush 8) := ⟨by decide +kernel, rfl⟩
theorem e_X10_init_32 : DC cX10_init 32 2 34 (.newarray .int) := ⟨by decide +kernel, rfl⟩
theorem e_X10_init_34 : DC cX10_init 34 3 37 (.putfield 19) := ⟨by decide +kernel, rfl⟩
theorem fp_X10_19 : FP RX10 19 8 5 true (.array .int) := ⟨RX10, TX10, 37, tyX10, rfl, by decide, uw_8, tb_in 1465 (by decide +kernel) (by decide +kernel), rfl, rfl, by decide +kernel, tyX10_ok, nmX10⟩
theorem e_X10_init_37 : DC cX10_init 37 1 38 (.aload_n 0) := ⟨by decide +kernel, rfl⟩
theorem e_X10_init_38 : DC cX10_init 38 2 40 (.bipush 8) := ⟨by decide +kernel, rfl⟩
theorem e_X10_init_40 : DC cX10_init 40 2 42 (.newarray .int) := ⟨by decide +kernel, rfl⟩
theorem e_X10_init_42 : DC cX10_init 42 3 45 (.putfield 22) := ⟨by decide +kernel, rfl⟩
theorem fp_X10_22 : FP RX10 22 8 6 true (.array .int) := ⟨RX10, TX10, 37, tyX10, rfl, by decide, uw_8, tb_in 1466 (by decide +kernel) (by decide +kernel), rfl, rfl, by decide +kernel, tyX10_ok, nmX10⟩
theorem e_X10_init_45 : DC cX10_init 45 1 46 (.aload_n 0) := ⟨by decide +kernel, rfl⟩
theorem e_X10_init_46 : DC cX10_init 46 2 48 (.bipush 8) := ⟨by decide +kernel, rfl⟩
theorem e_X10_init_48 : DC cX10_init 48 2 50 (.newarray .int) := ⟨by decide +kernel, rfl⟩
theorem e_X10_init_50 : DC cX10_init 50 3 53 (.putfield 25) := ⟨by decide +kernel, rfl⟩
theorem fp_X10_25 : FP RX10 25 8 7 true (.array .int) := ⟨RX10, TX10, 37, tyX10, rfl, by decide, uw_8, tb_in 1467 (by decide +kernel) (by decide +kernel), rfl, rfl, by decide +kernel, tyX10_ok, nmX10⟩
theorem e_X10_init_53 : DC cX10_init 53 1 54 (.aload_n 0) := ⟨by decide +kernel, rfl⟩
theorem e_X10_init_54 : DC cX10_init 54 2 56 (.bipush 8) := ⟨by decide +kernel, rfl⟩
theorem e_X10_init_56 : DC cX10_init 56 2 58 (.newarray .int) := ⟨by decide +kernel, rfl⟩
theorem e_X10_init_58 : DC cX10_init 58 3 61 (.putfield 28) := ⟨by decide +kernel, rfl⟩
theorem fp_X10_28 : FP RX10 28 8 8 true (.array .int) := ⟨RX10, TX10, 37, tyX10, rfl, by decide, uw_8, tb_in 1468 (by decide +kernel) (by decide +kernel), rfl, rfl, by decide +kernel, tyX10_ok, nmX10⟩
theorem e_X10_init_61 : DC cX10_init 61 1 62 (.aload_n 0) := ⟨by decide +kernel, rfl⟩
theorem e_X10_init_62 : DC cX10_init 62 2 64 (.bipush 8) := ⟨by decide +kernel, rfl⟩
theorem e_X10_init_64 : DC cX10_init 64 2 66 (.newarray .int) := ⟨by decide +kernel, rfl⟩
theorem e_X10_init_66 : DC cX10_init 66 3 69 (.putfield 31) := ⟨by decide +kernel, rfl⟩
theorem fp_X10_31 : FP RX10 31 8 9 true (.array .int) := ⟨RX10, TX10, 37, tyX10, rfl, by decide, uw_8, tb_in 1469 (by decide +kernel) (by decide +kernel), rfl, rfl, by decide +kernel, tyX10_ok, nmX10⟩
theorem e_X10_init_69 : DC cX10_init 69 1 70 (.aload_n 0) := ⟨by decide +kernel, rfl⟩
theorem e_X10_init_70 : DC cX10_init 70 2 72 (.bipush 8) := ⟨by decide +kernel, rfl⟩
theorem e_X10_init_72 : DC cX10_init 72 2 74 (.newarray .int) := ⟨by decide +kernel, rfl⟩
theorem e_X10_init_74 : DC cX10_init 74 3 77 (.putfield 34) := ⟨by decide +kernel, rfl⟩
theorem fp_X10_34 : FP RX10 34 8 10 true (.array .int) := ⟨RX10, TX10, 37, tyX10, rfl, by decide, uw_8, tb_in 1470 (by decide +kernel) (by decide +kernel), rfl, rfl, by decide +kernel, tyX10_ok, nmX10⟩
theorem e_X10_init_77 : DC cX10_init 77 1 78 (.aload_n 0) := ⟨by decide +kernel, rfl⟩
theorem e_X10_init_78 : DC cX10_init 78 3 81 (.sipush 384) := ⟨by decide +kernel, rfl⟩
theorem e_X10_init_81 : DC cX10_init 81 2 83 (.newarray .int) := ⟨by decide +kernel, rfl⟩
theorem e_X10_init_83 : DC cX10_init 83 3 86 (.putfield 37) := ⟨by decide +kernel, rfl⟩
theorem fp_X10_37 : FP RX10 37 8 11 true (.array .int) := ⟨RX10, TX10, 37, tyX10, rfl, by decide, uw_8, tb_in 1471 (by decide +kernel) (by decide +kernel), rfl, rfl, by decide +kernel, tyX10_ok, nmX10⟩
theorem e_X10_init_86 : DC cX10_init 86 1 87 (.aload_n 0) := ⟨by decide +kernel, rfl⟩
theorem e_X10_init_87 : DC cX10_init 87 2 89 (.bipush 16) := ⟨by decide +kernel, rfl⟩
theorem e_X10_init_89 : DC cX10_init 89 2 91 (.newarray .int) := ⟨by decide +kernel, rfl⟩
theorem e_X10_init_91 : DC cX10_init 91 3 94 (.putfield 40) := ⟨by decide +kernel, rfl⟩
theorem fp_X10_40 : FP RX10 40 8 12 true (.array .int) := ⟨RX10, TX10, 37, tyX10, rfl, by decide, uw_8, tb_in 1472 (by decide +kernel) (by decide +kernel), rfl, rfl, by decide +kernel, tyX10_ok, nmX10⟩
theorem e_X10_init_94 : DC cX10_init 94 1 95 (.aload_n 0) := ⟨by decide +kernel, rfl⟩
theorem e_X10_init_95 : DC cX10_init 95 2 97 (.bipush 16) := ⟨by decide +kernel, rfl⟩
theorem e_X10_init_97 : DC cX10_init 97 2 99 (.newarray .int) := ⟨by decide +kernel, rfl⟩
theorem e_X10_init_99 : DC cX10_init 99 3 102 (.putfield 43) := ⟨by decide +kernel, rfl⟩
theorem fp_X10_43 : FP RX10 43 8 13 true (.array .int) := ⟨RX10, TX10, 37, tyX10, rfl, by decide, uw_8, tb_in 1473 (by decide +kernel) (by decide +kernel), rfl, rfl, by decide +kernel, tyX10_ok, nmX10⟩
theorem e_X10_init_102 : DC cX10_init 102 1 103 (.aload_n 0) := ⟨by decide +kernel, rfl⟩
theorem e_X10_init_103 : DC cX10_init 103 2 105 (.bipush 8) := ⟨by decide +kernel, rfl⟩
theorem e_X10_init_105 : DC cX10_init 105 2 107 (.newarray .int) := ⟨by decide +kernel, rfl⟩
theorem e_X10_init_107 : DC cX10_init 107 3 110 (.putfield 46) := ⟨by decide +kernel, rfl⟩
theorem fp_X10_46 : FP RX10 46 8 14 true (.array .int) := ⟨RX10, TX10, 37, tyX10, rfl, by decide, uw_8, tb_in 1474 (by decide +kernel) (by decide +kernel), rfl, rfl, by decide +kernel, tyX10_ok, nmX10⟩
theorem e_X10_init_110 : DC cX10_init 110 1 111 (.aload_n 0) := ⟨by decide +kernel, rfl⟩
theorem e_X10_init_111 : DC cX10_init 111 2 113 (.bipush 8) := ⟨by decide +kernel, rfl⟩
theorem e_X10_init_113 : DC cX10_init 113 2 115 (.newarray .int) := ⟨by decide +kernel, rfl⟩
theorem e_X10_init_115 : DC cX10_init 115 3 118 (.putfield 49) := ⟨by decide +kernel, rfl⟩
theorem fp_X10_49 : FP RX10 49 8 15 true (.array .int) := ⟨RX10, TX10, 37, tyX10, rfl, by decide, uw_8, tb_in 1475 (by decide +kernel) (by decide +kernel), rfl, rfl, by decide +kernel, tyX10_ok, nmX10⟩
theorem e_X10_init_118 : DC cX10_init 118 1 119 (.aload_n 0) := ⟨by decide +kernel, rfl⟩
theorem e_X10_init_119 : DC cX10_init 119 2 121 (.bipush 8) := ⟨by decide +kernel, rfl⟩
theorem e_X10_init_121 : DC cX10_init 121 2 123 (.newarray .int) := ⟨by decide +kernel, rfl⟩
theorem e_X10_init_123 : DC cX10_init 123 3 126 (.putfield 52) := ⟨by decide +kernel, rfl⟩
theorem fp_X10_52 : FP RX10 52 8 16 true (.array .int) := ⟨RX10, TX10, 37, tyX10, rfl, by decide, uw_8, tb_in 1476 (by decide +kernel) (by decide +kernel), rfl, rfl, by decide +kernel, tyX10_ok, nmX10⟩
theorem e_X10_init_126 : DC cX10_init 126 1 127 (.aload_n 0) := ⟨by decide +kernel, rfl⟩
theorem e_X10_init_127 : DC cX10_init 127 1 128 (.iconst (-1)) := ⟨by decide +kernel, rfl⟩
theorem e_X10_init_128 : DC cX10_init 128 3 131 (.putfield 55) := ⟨by decide +kernel, rfl⟩
theorem fp_X10_55 : FP RX10 55 8 26 false .int := ⟨RX10, TX10, 37, tyX10, rfl, by decide, uw_8, tb_in 1486 (by decide +kernel) (by decide +kernel), rfl, rfl, by decide +kernel, tyX10_ok, nmX10⟩
theorem e_X10_init_131 : DC cX10_init 131 1 132 (.aload_n 0) := ⟨by decide +kernel, rfl⟩
theorem e_X10_init_132 : DC cX10_init 132 3 135 (.sipush 1113) := ⟨by decide +kernel, rfl⟩
theorem e_X10_init_135 : DC cX10_init 135 2 137 (.newarray .long) := ⟨by decide +kernel, rfl⟩
theorem e_X10_init_137 : DC cX10_init 137 3 140 (.putfield 59) := ⟨by decide +kernel, rfl⟩
theorem fp_X10_59 : FP RX10 59 8 27 true (.array .long) := ⟨RX10, TX10, 37, tyX10, rfl, by decide, uw_8, tb_in 1487 (by decide +kernel) (by decide +kernel), rfl, rfl, by decide +kernel, tyX10_ok, nmX10⟩
theorem e_X10_init_140 : DC cX10_init 140 1 141 (.aload_n 0) := ⟨by decide +kernel, rfl⟩
theorem e_X10_init_141 : DC cX10_init 141 3 144 (.sipush 1113) := ⟨by decide +kernel, rfl⟩
theorem e_X10_init_144 : DC cX10_init 144 2 146 (.newarray .long) := ⟨by decide +kernel, rfl⟩
theorem e_X10_init_146 : DC cX10_init 146 3 149 (.putfield 63) := ⟨by decide +kernel, rfl⟩
theorem fp_X10_63 : FP RX10 63 8 28 true (.array .long) := ⟨RX10, TX10, 37, tyX10, rfl, by decide, uw_8, tb_in 1488 (by decide +kernel) (by decide +kernel), rfl, rfl, by decide +kernel, tyX10_ok, nmX10⟩
theorem e_X10_init_149 : DC cX10_init 149 1 150 (.aload_n 0) := ⟨by decide +kernel, rfl⟩
theorem e_X10_init_150 : DC cX10_init 150 3 153 (.sipush 1113) := ⟨by decide +kernel, rfl⟩
theorem e_X10_init_153 : DC cX10_init 153 2 155 (.newarray .long) := ⟨by decide +kernel, rfl⟩
theorem e_X10_init_155 : DC cX10_init 155 3 158 (.putfield 66) := ⟨by decide +kernel, rfl⟩
theorem fp_X10_66 : FP RX10 66 8 29 true (.array .long) := ⟨RX10, TX10, 37, tyX10, rfl, by decide, uw_8, tb_in 1489 (by decide +kernel) (by decide +kernel), rfl, rfl, by decide +kernel, tyX10_ok, nmX10⟩
theorem e_X10_init_158 : DC cX10_init 158 1 159 (.aload_n 0) := ⟨by decide +kernel, rfl⟩
theorem e_X10_init_159 : DC cX10_init 159 3 162 (.sipush 1113) := ⟨by decide +kernel, rfl⟩
theorem e_X10_init_162 : DC cX10_init 162 2 164 (.newarray .long) := ⟨by decide +kernel, rfl⟩
theorem e_X10_init_164 : DC cX10_init 164 3 167 (.putfield 69) := ⟨by decide +kernel, rfl⟩
theorem fp_X10_69 : FP RX10 69 8 30 true (.array .long) := ⟨RX10, TX10, 37, tyX10, rfl, by decide, uw_8, tb_in 1490 (by decide +kernel) (by decide +kernel), rfl, rfl, by decide +kernel, tyX10_ok, nmX10⟩
theorem e_X10_init_167 : DC cX10_init 167 1 168 (.aload_n 0) := ⟨by decide +kernel, rfl⟩
theorem e_X10_init_168 : DC cX10_init 168 3 171 (.sipush 22260) := ⟨by decide +kernel, rfl⟩
theorem e_X10_init_171 : DC cX10_init 171 2 173 (.newarray .long) := ⟨by decide +kernel, rfl⟩
theorem e_X10_init_173 : DC cX10_init 173 3 176 (.putfield 72) := ⟨by decide +kernel, rfl⟩
theorem fp_X10_72 : FP RX10 72 8 31 true (.array .long) := ⟨RX10, TX10, 37, tyX10, rfl, by decide, uw_8, tb_in 1491 (by decide +kernel) (by decide +kernel), rfl, rfl, by decide +kernel, tyX10_ok, nmX10⟩
theorem e_X10_init_176 : DC cX10_init 176 1 177 (.aload_n 0) := ⟨by decide +kernel, rfl⟩
theorem e_X10_init_177 : DC cX10_init 177 1 178 (.iconst 4) := ⟨by decide +kernel, rfl⟩
theorem e_X10_init_178 : DC cX10_init 178 2 180 (.newarray .boolean) := ⟨by decide +kernel, rfl⟩
theorem arr_boolean : Cond.arrayClass .boolean ∈ tb := tb_in 1572 (by decide +kernel) (by decide +kernel)
theorem e_X10_init_180 : DC cX10_init 180 3 183 (.putfield 75) := ⟨by decide +kernel, rfl⟩
theorem fp_X10_75 : FP RX10 75 8 34 true (.array .boolean) := ⟨RX10, TX10, 37, tyX10, rfl, by decide, uw_8, tb_in 1494 (by decide +kernel) (by decide +kernel), rfl, rfl, by decide +kernel, tyX10_ok, nmX10⟩
theorem e_X10_init_183 : DC cX10_init 183 1 184 (.aload_n 0) := ⟨by decide +kernel, rfl⟩
theorem e_X10_init_184 : DC cX10_init 184 2 186 (.bipush 6) := ⟨by decide +kernel, rfl⟩
theorem e_X10_init_186 : DC cX10_init 186 2 188 (.newarray .long) := ⟨by decide +kernel, rfl⟩
theorem e_X10_init_188 : DC cX10_init 188 3 191 (.putfield 79) := ⟨by decide +kernel, rfl⟩
theorem fp_X10_79 : FP RX10 79 8 35 true (.array .long) := ⟨RX10, TX10, 37, tyX10, rfl, by decide, uw_8, tb_in 1495 (by decide +kernel) (by decide +kernel), rfl, rfl, by decide +kernel, tyX10_ok, nmX10⟩
theorem e_X10_init_191 : DC cX10_init 191 1 192 (.aload_n 0) := ⟨by decide +kernel, rfl⟩
theorem e_X10_init_192 : DC cX10_init 192 3 195 (.invokevirtual 82) := ⟨by decide +kernel, rfl⟩
theorem cb_X10_freshText : CB yX10_freshText cX10_freshText 2 none 0 := ⟨tb_in 1419 (by decide +kernel) (by decide +kernel), tb_in 10 (by decide +kernel) (by decide +kernel), by decide +kernel⟩
theorem ml_X10_82 : Cond.methodLink RX10 82 yX10_freshText ∈ tb := tb_in 1416 (by decide +kernel) (by decide +kernel)
theorem im_X10_freshText : Cond.instanceMethod yX10_freshText ∈ tb := tb_in 1418 (by decide +kernel) (by decide +kernel)
theorem se_X10_freshText : Cond.selects (yX10_freshText).cls yX10_freshText yX10_freshText ∈ tb := tb_sel 8 (by decide +kernel) (by decide +kernel)
theorem e_X10_init_195 : DC cX10_init 195 1 196 (.aload_n 0) := ⟨by decide +kernel, rfl⟩
theorem e_X10_init_196 : DC cX10_init 196 3 199 (.invokevirtual 85) := ⟨by decide +kernel, rfl⟩
theorem cb_X10_takeText : CB yX10_takeText cX10_takeText 2 none 0 := ⟨tb_in 1427 (by decide +kernel) (by decide +kernel), tb_in 10 (by decide +kernel) (by decide +kernel), by decide +kernel⟩
theorem ml_X10_85 : Cond.methodLink RX10 85 yX10_takeText ∈ tb := tb_in 1424 (by decide +kernel) (by decide +kernel)
theorem im_X10_takeText : Cond.instanceMethod yX10_takeText ∈ tb := tb_in 1426 (by decide +kernel) (by decide +kernel)
theorem se_X10_takeText : Cond.selects (yX10_takeText).cls yX10_takeText yX10_takeText ∈ tb := tb_sel 10 (by decide +kernel) (by decide +kernel)
theorem e_X10_init_199 : DC cX10_init 199 1 200 (.aload_n 0) := ⟨by decide +kernel, rfl⟩
theorem e_X10_init_200 : DC cX10_init 200 3 203 (.invokevirtual 88) := ⟨by decide +kernel, rfl⟩
theorem cb_X10_begins : CB yX10_begins cX10_begins 4 none 0 := ⟨tb_in 1435 (by decide +kernel) (by decide +kernel), tb_in 10 (by decide +kernel) (by decide +kernel), by decide +kernel⟩
theorem ml_X10_88 : Cond.methodLink RX10 88 yX10_begins ∈ tb := tb_in 1432 (by decide +kernel) (by decide +kernel)
theorem im_X10_begins : Cond.instanceMethod yX10_begins ∈ tb := tb_in 1434 (by decide +kernel) (by decide +kernel)
theorem se_X10_begins : Cond.selects (yX10_begins).cls yX10_begins yX10_begins ∈ tb := tb_sel 12 (by decide +kernel) (by decide +kernel)
theorem e_X10_init_203 : DC cX10_init 203 1 204 (.return_) := ⟨by decide +kernel, rfl⟩
/-- a new model at m -/
def MZ (V : VX) (τ : Mem) (m : Nat) : Prop := τ m = some (ob 8 [.int 0, .ref (m + 1), .int 0, .ref (m + 2), .ref (m + 3), .ref (m + 4), .ref (m + 5), .ref (m + 6), .ref (m + 7), .ref (m + 8), .ref (m + 9), .ref (m + 10), .ref (m + 11), .ref (m + 12), .ref (m + 13), .ref (m + 14), .ref (m + 15), .int 0, .int 0, .int 0, .int 0, .int 0, .int 0, .int 0, .int 0, .int 0, .int (-1), .ref (m + 16), .ref (m + 17), .ref (m + 18), .ref (m + 19), .ref (m + 20), .int 0, .int 0, .ref (m + 21), .ref (m + 22), .int 0]) ∧ τ (m + 1) = some (aI V 700 (fun _ => 0)) ∧ τ (m + 2) = some (aI V 10 (fun _ => 0)) ∧ τ (m + 3) = some (aI V 8 (fun _ => 0)) ∧ τ (m + 4) = some (aI V 8 (fun _ => 0)) ∧ τ (m + 5) = some (aI V 8 (fun _ => 0)) ∧ τ (m + 6) = some (aI V 8 (fun _ => 0)) ∧ τ (m + 7) = some (aI V 8 (fun _ => 0)) ∧ τ (m + 8) = some (aI V 8 (fun _ => 0)) ∧ τ (m + 9) = some (aI V 8 (fun _ => 0)) ∧ τ (m + 10) = some (aI V 384 (fun _ => 0)) ∧ τ (m + 11) = some (aI V 16 (fun _ => 0)) ∧ τ (m + 12) = some (aI V 16 (fun _ => 0)) ∧ τ (m + 13) = some (aI V 8 (fun _ => 0)) ∧ τ (m + 14) = some (aI V 8 (fun _ => 0)) ∧ τ (m + 15) = some (aI V 8 (fun _ => 0)) ∧ τ (m + 16) = some (aJ V 1113 sZ) ∧ τ (m + 17) = some (aJ V 1113 (fun _ => 0)) ∧ τ (m + 18) = some (aJ V 1113 (fun _ => 0)) ∧ τ (m + 19) = some (aJ V 1113 (fun _ => 0)) ∧ τ (m + 20) = some (aJ V 22260 (fun _ => 0)) ∧ τ (m + 21) = some (aZ V 4 (fun _ => 0)) ∧ τ (m + 22) = some (aJ V 6 (fun _ => 0))
set_option maxRecDepth 20000 in
theorem k_Model_init (l : Launch) (V : VX) (σ : Mem) (m : Nat) (h0 : σ m = some (ob 8 [.int 0, .null, .int 0, .null, .null, .null, .null, .null, .null, .null, .null, .null, .null, .null, .null, .null, .null, .int 0, .int 0, .int 0, .int 0, .int 0, .int 0, .int 0, .int 0, .int 0, .int 0, .null, .null, .null, .null, .null, .int 0, .int 0, .null, .null, .int 0])) : Ct l V yX10_init cX10_init 1 none 3 22 27928 (m + 1) σ [.ref m] (fun r τ => r = none ∧ MZ V τ m ∧ ∀ q : Nat, q < m → τ q = σ q) := by
  refine Ct.of (by decide) (Nat.le_of_ble_eq_true rfl) [(0, .ref m)] rfl (fun X hX F hQ => ?_)
  refine m_aload_n F rfl e_X10_init_0 ?_
  refine m_objInit F e_X10_init_1 ml_X10_1 im_obj co_obj (Nat.le_of_ble_eq_true rfl) (Nat.le_of_ble_eq_true rfl) ?_
  refine m_aload_n F rfl e_X10_init_4 ?_
  refine m_sipush F (v := 700) (by decide) e_X10_init_5 ?_
  refine m_newI F (len := 700) e_X10_init_8 arr_int (by decide) (by decide) (by decide) (k' := 1) (z' := 700) (N' := m + 2) rfl rfl rfl (Nat.le_of_ble_eq_true rfl) (Nat.le_of_ble_eq_true rfl) ?_
  refine m_putF F e_X10_init_10 fp_X10_7 rfl rfl (ru_ne (by omega) h0) rfl rfl (Nat.le_of_ble_eq_true rfl) (fs' := [.int 0, .ref (m + 1), .int 0, .null, .null, .null, .null, .null, .null, .null, .null, .null, .null, .null, .null, .null, .null, .int 0, .int 0, .int 0, .int 0, .int 0, .int 0, .int 0, .int 0, .int 0, .int 0, .null, .null, .null, .null, .null, .int 0, .int 0, .null, .null, .int 0]) rfl rfl ?_
  refine m_aload_n F rfl e_X10_init_13 ?_
  refine m_bipush F (v := 10) (by decide) e_X10_init_14 ?_
  refine m_newI F (len := 10) e_X10_init_16 arr_int (by decide) (by decide) (by decide) (k' := 2) (z' := 710) (N' := m + 3) rfl rfl rfl (Nat.le_of_ble_eq_true rfl) (Nat.le_of_ble_eq_true rfl) ?_
  refine m_putF F e_X10_init_18 fp_X10_13 rfl rfl (ru_ne (by omega) ru_eq) rfl rfl (Nat.le_of_ble_eq_true rfl) (fs' := [.int 0, .ref (m + 1), .int 0, .ref (m + 2), .null, .null, .null, .null, .null, .null, .null, .null, .null, .null, .null, .null, .null, .int 0, .int 0, .int 0, .int 0, .int 0, .int 0, .int 0, .int 0, .int 0, .int 0, .null, .null, .null, .null, .null, .int 0, .int 0, .null, .null, .int 0]) rfl rfl ?_
  refine m_aload_n F rfl e_X10_init_21 ?_
  refine m_bipush F (v := 8) (by decide) e_X10_init_22 ?_
  refine m_newI F (len := 8) e_X10_init_24 arr_int (by decide) (by decide) (by decide) (k' := 3) (z' := 718) (N' := m + 4) rfl rfl rfl (Nat.le_of_ble_eq_true rfl) (Nat.le_of_ble_eq_true rfl) ?_
  refine m_putF F e_X10_init_26 fp_X10_16 rfl rfl (ru_ne (by omega) ru_eq) rfl rfl (Nat.le_of_ble_eq_true rfl) (fs' := [.int 0, .ref (m + 1), .int 0, .ref (m + 2), .ref (m + 3), .null, .null, .null, .null, .null, .null, .null, .null, .null, .null, .null, .null, .int 0, .int 0, .int 0, .int 0, .int 0, .int 0, .int 0, .int 0, .int 0, .int 0, .null, .null, .null, .null, .null, .int 0, .int 0, .null, .null, .int 0]) rfl rfl ?_
  refine m_aload_n F rfl e_X10_init_29 ?_
  refine m_bipush F (v := 8) (by decide) e_X10_init_30 ?_
  refine m_newI F (len := 8) e_X10_init_32 arr_int (by decide) (by decide) (by decide) (k' := 4) (z' := 726) (N' := m + 5) rfl rfl rfl (Nat.le_of_ble_eq_true rfl) (Nat.le_of_ble_eq_true rfl) ?_
  refine m_putF F e_X10_init_34 fp_X10_19 rfl rfl (ru_ne (by omega) ru_eq) rfl rfl (Nat.le_of_ble_eq_true rfl) (fs' := [.int 0, .ref (m + 1), .int 0, .ref (m + 2), .ref (m + 3), .ref (m + 4), .null, .null, .null, .null, .null, .null, .null, .null, .null, .null, .null, .int 0, .int 0, .int 0, .int 0, .int 0, .int 0, .int 0, .int 0, .int 0, .int 0, .null, .null, .null, .null, .null, .int 0, .int 0, .null, .null, .int 0]) rfl rfl ?_
  refine m_aload_n F rfl e_X10_init_37 ?_
  refine m_bipush F (v := 8) (by decide) e_X10_init_38 ?_
  refine m_newI F (len := 8) e_X10_init_40 arr_int (by decide) (by decide) (by decide) (k' := 5) (z' := 734) (N' := m + 6) rfl rfl rfl (Nat.le_of_ble_eq_true rfl) (Nat.le_of_ble_eq_true rfl) ?_
  refine m_putF F e_X10_init_42 fp_X10_22 rfl rfl (ru_ne (by omega) ru_eq) rfl rfl (Nat.le_of_ble_eq_true rfl) (fs' := [.int 0, .ref (m + 1), .int 0, .ref (m + 2), .ref (m + 3), .ref (m + 4), .ref (m + 5), .null, .null, .null, .null, .null, .null, .null, .null, .null, .null, .int 0, .int 0, .int 0, .int 0, .int 0, .int 0, .int 0, .int 0, .int 0, .int 0, .null, .null, .null, .null, .null, .int 0, .int 0, .null, .null, .int 0]) rfl rfl ?_
  refine m_aload_n F rfl e_X10_init_45 ?_
  refine m_bipush F (v := 8) (by decide) e_X10_init_46 ?_
  refine m_newI F (len := 8) e_X10_init_48 arr_int (by decide) (by decide) (by decide) (k' := 6) (z' := 742) (N' := m + 7) rfl rfl rfl (Nat.le_of_ble_eq_true rfl) (Nat.le_of_ble_eq_true rfl) ?_
  refine m_putF F e_X10_init_50 fp_X10_25 rfl rfl (ru_ne (by omega) ru_eq) rfl rfl (Nat.le_of_ble_eq_true rfl) (fs' := [.int 0, .ref (m + 1), .int 0, .ref (m + 2), .ref (m + 3), .ref (m + 4), .ref (m + 5), .ref (m + 6), .null, .null, .null, .null, .null, .null, .null, .null, .null, .int 0, .int 0, .int 0, .int 0, .int 0, .int 0, .int 0, .int 0, .int 0, .int 0, .null, .null, .null, .null, .null, .int 0, .int 0, .null, .null, .int 0]) rfl rfl ?_
  refine m_aload_n F rfl e_X10_init_53 ?_
  refine m_bipush F (v := 8) (by decide) e_X10_init_54 ?_
  refine m_newI F (len := 8) e_X10_init_56 arr_int (by decide) (by decide) (by decide) (k' := 7) (z' := 750) (N' := m + 8) rfl rfl rfl (Nat.le_of_ble_eq_true rfl) (Nat.le_of_ble_eq_true rfl) ?_
  refine m_putF F e_X10_init_58 fp_X10_28 rfl rfl (ru_ne (by omega) ru_eq) rfl rfl (Nat.le_of_ble_eq_true rfl) (fs' := [.int 0, .ref (m + 1), .int 0, .ref (m + 2), .ref (m + 3), .ref (m + 4), .ref (m + 5), .ref (m + 6), .ref (m + 7), .null, .null, .null, .null, .null, .null, .null, .null, .int 0, .int 0, .int 0, .int 0, .int 0, .int 0, .int 0, .int 0, .int 0, .int 0, .null, .null, .null, .null, .null, .int 0, .int 0, .null, .null, .int 0]) rfl rfl ?_
  refine m_aload_n F rfl e_X10_init_61 ?_
  refine m_bipush F (v := 8) (by decide) e_X10_init_62 ?_
  refine m_newI F (len := 8) e_X10_init_64 arr_int (by decide) (by decide) (by decide) (k' := 8) (z' := 758) (N' := m + 9) rfl rfl rfl (Nat.le_of_ble_eq_true rfl) (Nat.le_of_ble_eq_true rfl) ?_
  refine m_putF F e_X10_init_66 fp_X10_31 rfl rfl (ru_ne (by omega) ru_eq) rfl rfl (Nat.le_of_ble_eq_true rfl) (fs' := [.int 0, .ref (m + 1), .int 0, .ref (m + 2), .ref (m + 3), .ref (m + 4), .ref (m + 5), .ref (m + 6), .ref (m + 7), .ref (m + 8), .null, .null, .null, .null, .null, .null, .null, .int 0, .int 0, .int 0, .int 0, .int 0, .int 0, .int 0, .int 0, .int 0, .int 0, .null, .null, .null, .null, .null, .int 0, .int 0, .null, .null, .int 0]) rfl rfl ?_
  refine m_aload_n F rfl e_X10_init_69 ?_
  refine m_bipush F (v := 8) (by decide) e_X10_init_70 ?_
  refine m_newI F (len := 8) e_X10_init_72 arr_int (by decide) (by decide) (by decide) (k' := 9) (z' := 766) (N' := m + 10) rfl rfl rfl (Nat.le_of_ble_eq_true rfl) (Nat.le_of_ble_eq_true rfl) ?_
  refine m_putF F e_X10_init_74 fp_X10_34 rfl rfl (ru_ne (by omega) ru_eq) rfl rfl (Nat.le_of_ble_eq_true rfl) (fs' := [.int 0, .ref (m + 1), .int 0, .ref (m + 2), .ref (m + 3), .ref (m + 4), .ref (m + 5), .ref (m + 6), .ref (m + 7), .ref (m + 8), .ref (m + 9), .null, .null, .null, .null, .null, .null, .int 0, .int 0, .int 0, .int 0, .int 0, .int 0, .int 0, .int 0, .int 0, .int 0, .null, .null, .null, .null, .null, .int 0, .int 0, .null, .null, .int 0]) rfl rfl ?_
  refine m_aload_n F rfl e_X10_init_77 ?_
  refine m_sipush F (v := 384) (by decide) e_X10_init_78 ?_
  refine m_newI F (len := 384) e_X10_init_81 arr_int (by decide) (by decide) (by decide) (k' := 10) (z' := 1150) (N' := m + 11) rfl rfl rfl (Nat.le_of_ble_eq_true rfl) (Nat.le_of_ble_eq_true rfl) ?_
  refine m_putF F e_X10_init_83 fp_X10_37 rfl rfl (ru_ne (by omega) ru_eq) rfl rfl (Nat.le_of_ble_eq_true rfl) (fs' := [.int 0, .ref (m + 1), .int 0, .ref (m + 2), .ref (m + 3), .ref (m + 4), .ref (m + 5), .ref (m + 6), .ref (m + 7), .ref (m + 8), .ref (m + 9), .ref (m + 10), .null, .null, .null, .null, .null, .int 0, .int 0, .int 0, .int 0, .int 0, .int 0, .int 0, .int 0, .int 0, .int 0, .null, .null, .null, .null, .null, .int 0, .int 0, .null, .null, .int 0]) rfl rfl ?_
  refine m_aload_n F rfl e_X10_init_86 ?_
  refine m_bipush F (v := 16) (by decide) e_X10_init_87 ?_
  refine m_newI F (len := 16) e_X10_init_89 arr_int (by decide) (by decide) (by decide) (k' := 11) (z' := 1166) (N' := m + 12) rfl rfl rfl (Nat.le_of_ble_eq_true rfl) (Nat.le_of_ble_eq_true rfl) ?_
  refine m_putF F e_X10_init_91 fp_X10_40 rfl rfl (ru_ne (by omega) ru_eq) rfl rfl (Nat.le_of_ble_eq_true rfl) (fs' := [.int 0, .ref (m + 1), .int 0, .ref (m + 2), .ref (m + 3), .ref (m + 4), .ref (m + 5), .ref (m + 6), .ref (m + 7), .ref (m + 8), .ref (m + 9), .ref (m + 10), .ref (m + 11), .null, .null, .null, .null, .int 0, .int 0, .int 0, .int 0, .int 0, .int 0, .int 0, .int 0, .int 0, .int 0, .null, .null, .null, .null, .null, .int 0, .int 0, .null, .null, .int 0]) rfl rfl ?_
  refine m_aload_n F rfl e_X10_init_94 ?_
  refine m_bipush F (v := 16) (by decide) e_X10_init_95 ?_
  refine m_newI F (len := 16) e_X10_init_97 arr_int (by decide) (by decide) (by decide) (k' := 12) (z' := 1182) (N' := m + 13) rfl rfl rfl (Nat.le_of_ble_eq_true rfl) (Nat.le_of_ble_eq_true rfl) ?_
  refine m_putF F e_X10_init_99 fp_X10_43 rfl rfl (ru_ne (by omega) ru_eq) rfl rfl (Nat.le_of_ble_eq_true rfl) (fs' := [.int 0, .ref (m + 1), .int 0, .ref (m + 2), .ref (m + 3), .ref (m + 4), .ref (m + 5), .ref (m + 6), .ref (m + 7), .ref (m + 8), .ref (m + 9), .ref (m + 10), .ref (m + 11), .ref (m + 12), .null, .null, .null, .int 0, .int 0, .int 0, .int 0, .int 0, .int 0, .int 0, .int 0, .int 0, .int 0, .null, .null, .null, .null, .null, .int 0, .int 0, .null, .null, .int 0]) rfl rfl ?_
  refine m_aload_n F rfl e_X10_init_102 ?_
  refine m_bipush F (v := 8) (by decide) e_X10_init_103 ?_
  refine m_newI F (len := 8) e_X10_init_105 arr_int (by decide) (by decide) (by decide) (k' := 13) (z' := 1190) (N' := m + 14) rfl rfl rfl (Nat.le_of_ble_eq_true rfl) (Nat.le_of_ble_eq_true rfl) ?_
  refine m_putF F e_X10_init_107 fp_X10_46 rfl rfl (ru_ne (by omega) ru_eq) rfl rfl (Nat.le_of_ble_eq_true rfl) (fs' := [.int 0, .ref (m + 1), .int 0, .ref (m + 2), .ref (m + 3), .ref (m + 4), .ref (m + 5), .ref (m + 6), .ref (m + 7), .ref (m + 8), .ref (m + 9), .ref (m + 10), .ref (m + 11), .ref (m + 12), .ref (m + 13), .null, .null, .int 0, .int 0, .int 0, .int 0, .int 0, .int 0, .int 0, .int 0, .int 0, .int 0, .null, .null, .null, .null, .null, .int 0, .int 0, .null, .null, .int 0]) rfl rfl ?_
  refine m_aload_n F rfl e_X10_init_110 ?_
  refine m_bipush F (v := 8) (by decide) e_X10_init_111 ?_
  refine m_newI F (len := 8) e_X10_init_113 arr_int (by decide) (by decide) (by decide) (k' := 14) (z' := 1198) (N' := m + 15) rfl rfl rfl (Nat.le_of_ble_eq_true rfl) (Nat.le_of_ble_eq_true rfl) ?_
  refine m_putF F e_X10_init_115 fp_X10_49 rfl rfl (ru_ne (by omega) ru_eq) rfl rfl (Nat.le_of_ble_eq_true rfl) (fs' := [.int 0, .ref (m + 1), .int 0, .ref (m + 2), .ref (m + 3), .ref (m + 4), .ref (m + 5), .ref (m + 6), .ref (m + 7), .ref (m + 8), .ref (m + 9), .ref (m + 10), .ref (m + 11), .ref (m + 12), .ref (m + 13), .ref (m + 14), .null, .int 0, .int 0, .int 0, .int 0, .int 0, .int 0, .int 0, .int 0, .int 0, .int 0, .null, .null, .null, .null, .null, .int 0, .int 0, .null, .null, .int 0]) rfl rfl ?_
  refine m_aload_n F rfl e_X10_init_118 ?_
  refine m_bipush F (v := 8) (by decide) e_X10_init_119 ?_
  refine m_newI F (len := 8) e_X10_init_121 arr_int (by decide) (by decide) (by decide) (k' := 15) (z' := 1206) (N' := m + 16) rfl rfl rfl (Nat.le_of_ble_eq_true rfl) (Nat.le_of_ble_eq_true rfl) ?_
  refine m_putF F e_X10_init_123 fp_X10_52 rfl rfl (ru_ne (by omega) ru_eq) rfl rfl (Nat.le_of_ble_eq_true rfl) (fs' := [.int 0, .ref (m + 1), .int 0, .ref (m + 2), .ref (m + 3), .ref (m + 4), .ref (m + 5), .ref (m + 6), .ref (m + 7), .ref (m + 8), .ref (m + 9), .ref (m + 10), .ref (m + 11), .ref (m + 12), .ref (m + 13), .ref (m + 14), .ref (m + 15), .int 0, .int 0, .int 0, .int 0, .int 0, .int 0, .int 0, .int 0, .int 0, .int 0, .null, .null, .null, .null, .null, .int 0, .int 0, .null, .null, .int 0]) rfl rfl ?_
  refine m_aload_n F rfl e_X10_init_126 ?_
  refine m_iconst F (v := (-1)) (by decide) e_X10_init_127 ?_
  refine m_put F e_X10_init_128 fp_X10_55 ru_eq rfl rfl (Nat.le_of_ble_eq_true rfl) (fs' := [.int 0, .ref (m + 1), .int 0, .ref (m + 2), .ref (m + 3), .ref (m + 4), .ref (m + 5), .ref (m + 6), .ref (m + 7), .ref (m + 8), .ref (m + 9), .ref (m + 10), .ref (m + 11), .ref (m + 12), .ref (m + 13), .ref (m + 14), .ref (m + 15), .int 0, .int 0, .int 0, .int 0, .int 0, .int 0, .int 0, .int 0, .int 0, .int (-1), .null, .null, .null, .null, .null, .int 0, .int 0, .null, .null, .int 0]) rfl (bx_uu _ _ _ _) ?_
  refine m_aload_n F rfl e_X10_init_131 ?_
  refine m_sipush F (v := 1113) (by decide) e_X10_init_132 ?_
  refine m_newJ F (len := 1113) e_X10_init_135 arr_long (by decide) (by decide) (by decide) (k' := 16) (z' := 2319) (N' := m + 17) rfl rfl rfl (Nat.le_of_ble_eq_true rfl) (Nat.le_of_ble_eq_true rfl) ?_
  refine m_putF F e_X10_init_137 fp_X10_59 rfl rfl (ru_ne (by omega) ru_eq) rfl rfl (Nat.le_of_ble_eq_true rfl) (fs' := [.int 0, .ref (m + 1), .int 0, .ref (m + 2), .ref (m + 3), .ref (m + 4), .ref (m + 5), .ref (m + 6), .ref (m + 7), .ref (m + 8), .ref (m + 9), .ref (m + 10), .ref (m + 11), .ref (m + 12), .ref (m + 13), .ref (m + 14), .ref (m + 15), .int 0, .int 0, .int 0, .int 0, .int 0, .int 0, .int 0, .int 0, .int 0, .int (-1), .ref (m + 16), .null, .null, .null, .null, .int 0, .int 0, .null, .null, .int 0]) rfl rfl ?_
  refine m_aload_n F rfl e_X10_init_140 ?_
  refine m_sipush F (v := 1113) (by decide) e_X10_init_141 ?_
  refine m_newJ F (len := 1113) e_X10_init_144 arr_long (by decide) (by decide) (by decide) (k' := 17) (z' := 3432) (N' := m + 18) rfl rfl rfl (Nat.le_of_ble_eq_true rfl) (Nat.le_of_ble_eq_true rfl) ?_
  refine m_putF F e_X10_init_146 fp_X10_63 rfl rfl (ru_ne (by omega) ru_eq) rfl rfl (Nat.le_of_ble_eq_true rfl) (fs' := [.int 0, .ref (m + 1), .int 0, .ref (m + 2), .ref (m + 3), .ref (m + 4), .ref (m + 5), .ref (m + 6), .ref (m + 7), .ref (m + 8), .ref (m + 9), .ref (m + 10), .ref (m + 11), .ref (m + 12), .ref (m + 13), .ref (m + 14), .ref (m + 15), .int 0, .int 0, .int 0, .int 0, .int 0, .int 0, .int 0, .int 0, .int 0, .int (-1), .ref (m + 16), .ref (m + 17), .null, .null, .null, .int 0, .int 0, .null, .null, .int 0]) rfl rfl ?_
  refine m_aload_n F rfl e_X10_init_149 ?_
  refine m_sipush F (v := 1113) (by decide) e_X10_init_150 ?_
  refine m_newJ F (len := 1113) e_X10_init_153 arr_long (by decide) (by decide) (by decide) (k' := 18) (z' := 4545) (N' := m + 19) rfl rfl rfl (Nat.le_of_ble_eq_true rfl) (Nat.le_of_ble_eq_true rfl) ?_
  refine m_putF F e_X10_init_155 fp_X10_66 rfl rfl (ru_ne (by omega) ru_eq) rfl rfl (Nat.le_of_ble_eq_true rfl) (fs' := [.int 0, .ref (m + 1), .int 0, .ref (m + 2), .ref (m + 3), .ref (m + 4), .ref (m + 5), .ref (m + 6), .ref (m + 7), .ref (m + 8), .ref (m + 9), .ref (m + 10), .ref (m + 11), .ref (m + 12), .ref (m + 13), .ref (m + 14), .ref (m + 15), .int 0, .int 0, .int 0, .int 0, .int 0, .int 0, .int 0, .int 0, .int 0, .int (-1), .ref (m + 16), .ref (m + 17), .ref (m + 18), .null, .null, .int 0, .int 0, .null, .null, .int 0]) rfl rfl ?_
  refine m_aload_n F rfl e_X10_init_158 ?_
  refine m_sipush F (v := 1113) (by decide) e_X10_init_159 ?_
  refine m_newJ F (len := 1113) e_X10_init_162 arr_long (by decide) (by decide) (by decide) (k' := 19) (z' := 5658) (N' := m + 20) rfl rfl rfl (Nat.le_of_ble_eq_true rfl) (Nat.le_of_ble_eq_true rfl) ?_
  refine m_putF F e_X10_init_164 fp_X10_69 rfl rfl (ru_ne (by omega) ru_eq) rfl rfl (Nat.le_of_ble_eq_true rfl) (fs' := [.int 0, .ref (m + 1), .int 0, .ref (m + 2), .ref (m + 3), .ref (m + 4), .ref (m + 5), .ref (m + 6), .ref (m + 7), .ref (m + 8), .ref (m + 9), .ref (m + 10), .ref (m + 11), .ref (m + 12), .ref (m + 13), .ref (m + 14), .ref (m + 15), .int 0, .int 0, .int 0, .int 0, .int 0, .int 0, .int 0, .int 0, .int 0, .int (-1), .ref (m + 16), .ref (m + 17), .ref (m + 18), .ref (m + 19), .null, .int 0, .int 0, .null, .null, .int 0]) rfl rfl ?_
  refine m_aload_n F rfl e_X10_init_167 ?_
  refine m_sipush F (v := 22260) (by decide) e_X10_init_168 ?_
  refine m_newJ F (len := 22260) e_X10_init_171 arr_long (by decide) (by decide) (by decide) (k' := 20) (z' := 27918) (N' := m + 21) rfl rfl rfl (Nat.le_of_ble_eq_true rfl) (Nat.le_of_ble_eq_true rfl) ?_
  refine m_putF F e_X10_init_173 fp_X10_72 rfl rfl (ru_ne (by omega) ru_eq) rfl rfl (Nat.le_of_ble_eq_true rfl) (fs' := [.int 0, .ref (m + 1), .int 0, .ref (m + 2), .ref (m + 3), .ref (m + 4), .ref (m + 5), .ref (m + 6), .ref (m + 7), .ref (m + 8), .ref (m + 9), .ref (m + 10), .ref (m + 11), .ref (m + 12), .ref (m + 13), .ref (m + 14), .ref (m + 15), .int 0, .int 0, .int 0, .int 0, .int 0, .int 0, .int 0, .int 0, .int 0, .int (-1), .ref (m + 16), .ref (m + 17), .ref (m + 18), .ref (m + 19), .ref (m + 20), .int 0, .int 0, .null, .null, .int 0]) rfl rfl ?_
  refine m_aload_n F rfl e_X10_init_176 ?_
  refine m_iconst F (v := 4) (by decide) e_X10_init_177 ?_
  refine m_newZ F (len := 4) e_X10_init_178 arr_boolean (by decide) (by decide) (by decide) (k' := 21) (z' := 27922) (N' := m + 22) rfl rfl rfl (Nat.le_of_ble_eq_true rfl) (Nat.le_of_ble_eq_true rfl) ?_
  refine m_putF F e_X10_init_180 fp_X10_75 rfl rfl (ru_ne (by omega) ru_eq) rfl rfl (Nat.le_of_ble_eq_true rfl) (fs' := [.int 0, .ref (m + 1), .int 0, .ref (m + 2), .ref (m + 3), .ref (m + 4), .ref (m + 5), .ref (m + 6), .ref (m + 7), .ref (m + 8), .ref (m + 9), .ref (m + 10), .ref (m + 11), .ref (m + 12), .ref (m + 13), .ref (m + 14), .ref (m + 15), .int 0, .int 0, .int 0, .int 0, .int 0, .int 0, .int 0, .int 0, .int 0, .int (-1), .ref (m + 16), .ref (m + 17), .ref (m + 18), .ref (m + 19), .ref (m + 20), .int 0, .int 0, .ref (m + 21), .null, .int 0]) rfl rfl ?_
  refine m_aload_n F rfl e_X10_init_183 ?_
  refine m_bipush F (v := 6) (by decide) e_X10_init_184 ?_
  refine m_newJ F (len := 6) e_X10_init_186 arr_long (by decide) (by decide) (by decide) (k' := 22) (z' := 27928) (N' := m + 23) rfl rfl rfl (Nat.le_of_ble_eq_true rfl) (Nat.le_of_ble_eq_true rfl) ?_
  refine m_putF F e_X10_init_188 fp_X10_79 rfl rfl (ru_ne (by omega) ru_eq) rfl rfl (Nat.le_of_ble_eq_true rfl) (fs' := [.int 0, .ref (m + 1), .int 0, .ref (m + 2), .ref (m + 3), .ref (m + 4), .ref (m + 5), .ref (m + 6), .ref (m + 7), .ref (m + 8), .ref (m + 9), .ref (m + 10), .ref (m + 11), .ref (m + 12), .ref (m + 13), .ref (m + 14), .ref (m + 15), .int 0, .int 0, .int 0, .int 0, .int 0, .int 0, .int 0, .int 0, .int 0, .int (-1), .ref (m + 16), .ref (m + 17), .ref (m + 18), .ref (m + 19), .ref (m + 20), .int 0, .int 0, .ref (m + 21), .ref (m + 22), .int 0]) rfl rfl ?_
  refine m_aload_n F rfl e_X10_init_191 ?_
  refine m_callV F e_X10_init_192 (k_freshText0 (x_l X) V _ _ m 0 0 0 0 0 0 0 0 0 0 0 (-1) 0 0 0  ru_eq (ru_ne (by omega) (ru_ne (by omega) (ru_ne (by omega) (ru_ne (by omega) (ru_ne (by omega) (ru_ne (by omega) (ru_ne (by omega) (ru_ne (by omega) (ru_ne (by omega) (ru_ne (by omega) (ru_ne (by omega) (ru_ne (by omega) (ru_ne (by omega) (ru_ne (by omega) (ru_ne (by omega) (ru_ne (by omega) (ru_ne (by omega) (ru_ne (by omega) (ru_ne (by omega) (ru_ne (by omega) (ru_ne (by omega) (ru_ne (by omega) (ru_ne (by omega) (ru_ne (by omega) (ru_ne (by omega) (ru_ne (by omega) (ru_ne (by omega) (ru_ne (by omega) (ru_ne (by omega) (ru_ne (by omega) (ru_ne (by omega) (ru_ne (by omega) (ru_ne (by omega) (ru_ne (by omega) (ru_ne (by omega) (ru_ne (by omega) (ru_ne (by omega) (ru_ne (by omega) (ru_ne (by omega) (ru_ne (by omega) (ru_ne (by omega) ru_eq))))))))))))))))))))))))))))))))))))))))) ) cb_X10_freshText ml_X10_82 im_X10_freshText se_X10_freshText ru_eq rfl rfl (rest := []) rfl (Nat.le_of_ble_eq_true rfl) ⟨Nat.le_of_ble_eq_true rfl, Nat.le_of_ble_eq_true rfl⟩ ⟨Nat.le_of_ble_eq_true rfl, Nat.le_of_ble_eq_true rfl⟩ (k' := 22) (z' := 27928) (N' := m + 23) rfl rfl rfl (fun r τ hp => ?_)
  obtain ⟨rfl, rfl⟩ := hp
  refine m_aload_n F rfl e_X10_init_195 ?_
  refine m_callV F e_X10_init_196 (k_takeText0 (x_l X) V _ _ m 0 0 0 0 0 0 0 0 0 0 0 (-1) 0 0 0  ru_eq (ru_ne (by omega) (ru_ne (by omega) (ru_ne (by omega) (ru_ne (by omega) (ru_ne (by omega) (ru_ne (by omega) (ru_ne (by omega) (ru_ne (by omega) (ru_ne (by omega) (ru_ne (by omega) (ru_ne (by omega) (ru_ne (by omega) (ru_ne (by omega) (ru_ne (by omega) (ru_ne (by omega) (ru_ne (by omega) (ru_ne (by omega) (ru_ne (by omega) (ru_ne (by omega) (ru_ne (by omega) (ru_ne (by omega) (ru_ne (by omega) (ru_ne (by omega) (ru_ne (by omega) (ru_ne (by omega) (ru_ne (by omega) (ru_ne (by omega) (ru_ne (by omega) (ru_ne (by omega) (ru_ne (by omega) (ru_ne (by omega) (ru_ne (by omega) (ru_ne (by omega) (ru_ne (by omega) (ru_ne (by omega) (ru_ne (by omega) (ru_ne (by omega) (ru_ne (by omega) (ru_ne (by omega) (ru_ne (by omega) (ru_ne (by omega) ru_eq))))))))))))))))))))))))))))))))))))))))) (ru_ne (by omega) (ru_ne (by omega) (ru_ne (by omega) (ru_ne (by omega) (ru_ne (by omega) (ru_ne (by omega) (ru_ne (by omega) (ru_ne (by omega) (ru_ne (by omega) (ru_ne (by omega) (ru_ne (by omega) (ru_ne (by omega) (ru_ne (by omega) (ru_ne (by omega) (ru_ne (by omega) (ru_ne (by omega) (ru_ne (by omega) (ru_ne (by omega) (ru_ne (by omega) (ru_ne (by omega) (ru_ne (by omega) (ru_ne (by omega) (ru_ne (by omega) (ru_ne (by omega) (ru_ne (by omega) (ru_ne (by omega) (ru_ne (by omega) (ru_ne (by omega) (ru_ne (by omega) (ru_ne (by omega) (ru_ne (by omega) (ru_ne (by omega) (ru_ne (by omega) (ru_ne (by omega) (ru_ne (by omega) (ru_ne (by omega) (ru_ne (by omega) (ru_ne (by omega) (ru_ne (by omega) ru_eq))))))))))))))))))))))))))))))))))))))) (ru_ne (by omega) (ru_ne (by omega) (ru_ne (by omega) (ru_ne (by omega) (ru_ne (by omega) (ru_ne (by omega) (ru_ne (by omega) (ru_ne (by omega) (ru_ne (by omega) (ru_ne (by omega) (ru_ne (by omega) (ru_ne (by omega) (ru_ne (by omega) (ru_ne (by omega) (ru_ne (by omega) (ru_ne (by omega) (ru_ne (by omega) (ru_ne (by omega) (ru_ne (by omega) (ru_ne (by omega) (ru_ne (by omega) (ru_ne (by omega) (ru_ne (by omega) (ru_ne (by omega) (ru_ne (by omega) (ru_ne (by omega) (ru_ne (by omega) (ru_ne (by omega) (ru_ne (by omega) (ru_ne (by omega) (ru_ne (by omega) (ru_ne (by omega) (ru_ne (by omega) (ru_ne (by omega) (ru_ne (by omega) (ru_ne (by omega) (ru_ne (by omega) ru_eq))))))))))))))))))))))))))))))))))))) (ru_ne (by omega) (ru_ne (by omega) (ru_ne (by omega) (ru_ne (by omega) (ru_ne (by omega) (ru_ne (by omega) (ru_ne (by omega) (ru_ne (by omega) (ru_ne (by omega) (ru_ne (by omega) (ru_ne (by omega) (ru_ne (by omega) (ru_ne (by omega) (ru_ne (by omega) (ru_ne (by omega) (ru_ne (by omega) (ru_ne (by omega) (ru_ne (by omega) (ru_ne (by omega) (ru_ne (by omega) (ru_ne (by omega) (ru_ne (by omega) (ru_ne (by omega) (ru_ne (by omega) (ru_ne (by omega) (ru_ne (by omega) (ru_ne (by omega) (ru_ne (by omega) (ru_ne (by omega) (ru_ne (by omega) (ru_ne (by omega) (ru_ne (by omega) (ru_ne (by omega) (ru_ne (by omega) (ru_ne (by omega) ru_eq))))))))))))))))))))))))))))))))))) (ru_ne (by omega) (ru_ne (by omega) (ru_ne (by omega) (ru_ne (by omega) (ru_ne (by omega) (ru_ne (by omega) (ru_ne (by omega) (ru_ne (by omega) (ru_ne (by omega) (ru_ne (by omega) (ru_ne (by omega) (ru_ne (by omega) (ru_ne (by omega) (ru_ne (by omega) (ru_ne (by omega) (ru_ne (by omega) (ru_ne (by omega) (ru_ne (by omega) (ru_ne (by omega) (ru_ne (by omega) (ru_ne (by omega) (ru_ne (by omega) (ru_ne (by omega) (ru_ne (by omega) (ru_ne (by omega) (ru_ne (by omega) (ru_ne (by omega) (ru_ne (by omega) (ru_ne (by omega) (ru_ne (by omega) (ru_ne (by omega) (ru_ne (by omega) (ru_ne (by omega) ru_eq))))))))))))))))))))))))))))))))) (ru_ne (by omega) (ru_ne (by omega) (ru_ne (by omega) (ru_ne (by omega) (ru_ne (by omega) (ru_ne (by omega) (ru_ne (by omega) (ru_ne (by omega) (ru_ne (by omega) (ru_ne (by omega) (ru_ne (by omega) (ru_ne (by omega) (ru_ne (by omega) (ru_ne (by omega) (ru_ne (by omega) (ru_ne (by omega) (ru_ne (by omega) (ru_ne (by omega) (ru_ne (by omega) (ru_ne (by omega) (ru_ne (by omega) (ru_ne (by omega) (ru_ne (by omega) (ru_ne (by omega) (ru_ne (by omega) (ru_ne (by omega) (ru_ne (by omega) (ru_ne (by omega) (ru_ne (by omega) (ru_ne (by omega) (ru_ne (by omega) ru_eq))))))))))))))))))))))))))))))) (ru_ne (by omega) (ru_ne (by omega) (ru_ne (by omega) (ru_ne (by omega) (ru_ne (by omega) (ru_ne (by omega) (ru_ne (by omega) (ru_ne (by omega) (ru_ne (by omega) (ru_ne (by omega) (ru_ne (by omega) (ru_ne (by omega) (ru_ne (by omega) (ru_ne (by omega) (ru_ne (by omega) (ru_ne (by omega) (ru_ne (by omega) (ru_ne (by omega) (ru_ne (by omega) (ru_ne (by omega) (ru_ne (by omega) (ru_ne (by omega) (ru_ne (by omega) (ru_ne (by omega) (ru_ne (by omega) (ru_ne (by omega) (ru_ne (by omega) (ru_ne (by omega) (ru_ne (by omega) ru_eq))))))))))))))))))))))))))))) (ru_ne (by omega) (ru_ne (by omega) (ru_ne (by omega) (ru_ne (by omega) (ru_ne (by omega) (ru_ne (by omega) (ru_ne (by omega) (ru_ne (by omega) (ru_ne (by omega) (ru_ne (by omega) (ru_ne (by omega) (ru_ne (by omega) (ru_ne (by omega) (ru_ne (by omega) (ru_ne (by omega) (ru_ne (by omega) (ru_ne (by omega) (ru_ne (by omega) (ru_ne (by omega) (ru_ne (by omega) (ru_ne (by omega) (ru_ne (by omega) (ru_ne (by omega) (ru_ne (by omega) (ru_ne (by omega) (ru_ne (by omega) (ru_ne (by omega) ru_eq))))))))))))))))))))))))))) (ru_ne (by omega) (ru_ne (by omega) (ru_ne (by omega) (ru_ne (by omega) (ru_ne (by omega) (ru_ne (by omega) (ru_ne (by omega) (ru_ne (by omega) (ru_ne (by omega) (ru_ne (by omega) (ru_ne (by omega) (ru_ne (by omega) (ru_ne (by omega) (ru_ne (by omega) (ru_ne (by omega) (ru_ne (by omega) (ru_ne (by omega) (ru_ne (by omega) (ru_ne (by omega) (ru_ne (by omega) (ru_ne (by omega) (ru_ne (by omega) (ru_ne (by omega) (ru_ne (by omega) (ru_ne (by omega) ru_eq))))))))))))))))))))))))) (ru_ne (by omega) (ru_ne (by omega) (ru_ne (by omega) (ru_ne (by omega) (ru_ne (by omega) (ru_ne (by omega) (ru_ne (by omega) (ru_ne (by omega) (ru_ne (by omega) (ru_ne (by omega) (ru_ne (by omega) (ru_ne (by omega) (ru_ne (by omega) (ru_ne (by omega) (ru_ne (by omega) (ru_ne (by omega) (ru_ne (by omega) (ru_ne (by omega) (ru_ne (by omega) (ru_ne (by omega) (ru_ne (by omega) (ru_ne (by omega) (ru_ne (by omega) ru_eq))))))))))))))))))))))) (ru_ne (by omega) (ru_ne (by omega) (ru_ne (by omega) (ru_ne (by omega) (ru_ne (by omega) (ru_ne (by omega) (ru_ne (by omega) (ru_ne (by omega) (ru_ne (by omega) (ru_ne (by omega) (ru_ne (by omega) (ru_ne (by omega) (ru_ne (by omega) (ru_ne (by omega) (ru_ne (by omega) (ru_ne (by omega) (ru_ne (by omega) (ru_ne (by omega) (ru_ne (by omega) (ru_ne (by omega) (ru_ne (by omega) ru_eq))))))))))))))))))))) (ru_ne (by omega) (ru_ne (by omega) (ru_ne (by omega) (ru_ne (by omega) (ru_ne (by omega) (ru_ne (by omega) (ru_ne (by omega) (ru_ne (by omega) (ru_ne (by omega) (ru_ne (by omega) (ru_ne (by omega) (ru_ne (by omega) (ru_ne (by omega) (ru_ne (by omega) (ru_ne (by omega) (ru_ne (by omega) (ru_ne (by omega) (ru_ne (by omega) (ru_ne (by omega) ru_eq))))))))))))))))))) (ru_ne (by omega) (ru_ne (by omega) (ru_ne (by omega) (ru_ne (by omega) (ru_ne (by omega) (ru_ne (by omega) (ru_ne (by omega) (ru_ne (by omega) (ru_ne (by omega) (ru_ne (by omega) (ru_ne (by omega) (ru_ne (by omega) (ru_ne (by omega) (ru_ne (by omega) (ru_ne (by omega) (ru_ne (by omega) (ru_ne (by omega) ru_eq))))))))))))))))) (ru_ne (by omega) (ru_ne (by omega) (ru_ne (by omega) (ru_ne (by omega) (ru_ne (by omega) (ru_ne (by omega) (ru_ne (by omega) (ru_ne (by omega) (ru_ne (by omega) (ru_ne (by omega) (ru_ne (by omega) (ru_ne (by omega) (ru_ne (by omega) (ru_ne (by omega) (ru_ne (by omega) ru_eq))))))))))))))) ) cb_X10_takeText ml_X10_85 im_X10_takeText se_X10_takeText ru_eq rfl rfl (rest := []) rfl (Nat.le_of_ble_eq_true rfl) ⟨Nat.le_of_ble_eq_true rfl, Nat.le_of_ble_eq_true rfl⟩ ⟨Nat.le_of_ble_eq_true rfl, Nat.le_of_ble_eq_true rfl⟩ (k' := 22) (z' := 27928) (N' := m + 23) rfl rfl rfl (fun r τ hp => ?_)
  obtain ⟨rfl, rfl⟩ := hp
  refine m_aload_n F rfl e_X10_init_199 ?_
  refine m_callV F e_X10_init_200 (k_begins0 (x_l X) V _ _ m 0 0 0 0 0 0 0 0 0 0 0 (-1) 0 0 0 (fun _ => 0) ru_eq (ru_ne (by omega) (ru_ne (by omega) (ru_ne (by omega) (ru_ne (by omega) (ru_ne (by omega) (ru_ne (by omega) (ru_ne (by omega) (ru_ne (by omega) (ru_ne (by omega) (ru_ne (by omega) (ru_ne (by omega) (ru_ne (by omega) (ru_ne (by omega) (ru_ne (by omega) (ru_ne (by omega) (ru_ne (by omega) (ru_ne (by omega) (ru_ne (by omega) (ru_ne (by omega) (ru_ne (by omega) (ru_ne (by omega) (ru_ne (by omega) (ru_ne (by omega) (ru_ne (by omega) (ru_ne (by omega) (ru_ne (by omega) (ru_ne (by omega) (ru_ne (by omega) (ru_ne (by omega) (ru_ne (by omega) (ru_ne (by omega) (ru_ne (by omega) (ru_ne (by omega) (ru_ne (by omega) (ru_ne (by omega) (ru_ne (by omega) (ru_ne (by omega) (ru_ne (by omega) (ru_ne (by omega) (ru_ne (by omega) (ru_ne (by omega) ru_eq))))))))))))))))))))))))))))))))))))))))) (ru_ne (by omega) (ru_ne (by omega) (ru_ne (by omega) (ru_ne (by omega) (ru_ne (by omega) (ru_ne (by omega) (ru_ne (by omega) (ru_ne (by omega) (ru_ne (by omega) (ru_ne (by omega) (ru_ne (by omega) (ru_ne (by omega) (ru_ne (by omega) ru_eq))))))))))))) ) cb_X10_begins ml_X10_88 im_X10_begins se_X10_begins ru_eq rfl rfl (rest := []) rfl (Nat.le_of_ble_eq_true rfl) ⟨Nat.le_of_ble_eq_true rfl, Nat.le_of_ble_eq_true rfl⟩ ⟨Nat.le_of_ble_eq_true rfl, Nat.le_of_ble_eq_true rfl⟩ (k' := 22) (z' := 27928) (N' := m + 23) rfl rfl rfl (fun r τ hp => ?_)
  obtain ⟨rfl, rfl⟩ := hp
  exact m_vret F hQ e_X10_init_203 (⟨rfl, ⟨(ru_ne (by omega) ru_eq), (ru_ne (by omega) (ru_ne (by omega) (ru_ne (by omega) (ru_ne (by omega) (ru_ne (by omega) (ru_ne (by omega) (ru_ne (by omega) (ru_ne (by omega) (ru_ne (by omega) (ru_ne (by omega) (ru_ne (by omega) (ru_ne (by omega) (ru_ne (by omega) (ru_ne (by omega) (ru_ne (by omega) (ru_ne (by omega) (ru_ne (by omega) (ru_ne (by omega) (ru_ne (by omega) (ru_ne (by omega) (ru_ne (by omega) (ru_ne (by omega) (ru_ne (by omega) (ru_ne (by omega) (ru_ne (by omega) (ru_ne (by omega) (ru_ne (by omega) (ru_ne (by omega) (ru_ne (by omega) (ru_ne (by omega) (ru_ne (by omega) (ru_ne (by omega) (ru_ne (by omega) (ru_ne (by omega) (ru_ne (by omega) (ru_ne (by omega) (ru_ne (by omega) (ru_ne (by omega) (ru_ne (by omega) (ru_ne (by omega) (ru_ne (by omega) (ru_ne (by omega) (ru_ne (by omega) (ru_ne (by omega) ru_eq)))))))))))))))))))))))))))))))))))))))))))), (ru_ne (by omega) (ru_ne (by omega) (ru_ne (by omega) (ru_ne (by omega) (ru_ne (by omega) (ru_ne (by omega) (ru_ne (by omega) (ru_ne (by omega) (ru_ne (by omega) (ru_ne (by omega) (ru_ne (by omega) (ru_ne (by omega) (ru_ne (by omega) (ru_ne (by omega) (ru_ne (by omega) (ru_ne (by omega) (ru_ne (by omega) (ru_ne (by omega) (ru_ne (by omega) (ru_ne (by omega) (ru_ne (by omega) (ru_ne (by omega) (ru_ne (by omega) (ru_ne (by omega) (ru_ne (by omega) (ru_ne (by omega) (ru_ne (by omega) (ru_ne (by omega) (ru_ne (by omega) (ru_ne (by omega) (ru_ne (by omega) (ru_ne (by omega) (ru_ne (by omega) (ru_ne (by omega) (ru_ne (by omega) (ru_ne (by omega) (ru_ne (by omega) (ru_ne (by omega) (ru_ne (by omega) (ru_ne (by omega) (ru_ne (by omega) (ru_ne (by omega) ru_eq)))))))))))))))))))))))))))))))))))))))))), (ru_ne (by omega) (ru_ne (by omega) (ru_ne (by omega) (ru_ne (by omega) (ru_ne (by omega) (ru_ne (by omega) (ru_ne (by omega) (ru_ne (by omega) (ru_ne (by omega) (ru_ne (by omega) (ru_ne (by omega) (ru_ne (by omega) (ru_ne (by omega) (ru_ne (by omega) (ru_ne (by omega) (ru_ne (by omega) (ru_ne (by omega) (ru_ne (by omega) (ru_ne (by omega) (ru_ne (by omega) (ru_ne (by omega) (ru_ne (by omega) (ru_ne (by omega) (ru_ne (by omega) (ru_ne (by omega) (ru_ne (by omega) (ru_ne (by omega) (ru_ne (by omega) (ru_ne (by omega) (ru_ne (by omega) (ru_ne (by omega) (ru_ne (by omega) (ru_ne (by omega) (ru_ne (by omega) (ru_ne (by omega) (ru_ne (by omega) (ru_ne (by omega) (ru_ne (by omega) (ru_ne (by omega) (ru_ne (by omega) ru_eq)))))))))))))))))))))))))))))))))))))))), (ru_ne (by omega) (ru_ne (by omega) (ru_ne (by omega) (ru_ne (by omega) (ru_ne (by omega) (ru_ne (by omega) (ru_ne (by omega) (ru_ne (by omega) (ru_ne (by omega) (ru_ne (by omega) (ru_ne (by omega) (ru_ne (by omega) (ru_ne (by omega) (ru_ne (by omega) (ru_ne (by omega) (ru_ne (by omega) (ru_ne (by omega) (ru_ne (by omega) (ru_ne (by omega) (ru_ne (by omega) (ru_ne (by omega) (ru_ne (by omega) (ru_ne (by omega) (ru_ne (by omega) (ru_ne (by omega) (ru_ne (by omega) (ru_ne (by omega) (ru_ne (by omega) (ru_ne (by omega) (ru_ne (by omega) (ru_ne (by omega) (ru_ne (by omega) (ru_ne (by omega) (ru_ne (by omega) (ru_ne (by omega) (ru_ne (by omega) (ru_ne (by omega) (ru_ne (by omega) ru_eq)))))))))))))))))))))))))))))))))))))), (ru_ne (by omega) (ru_ne (by omega) (ru_ne (by omega) (ru_ne (by omega) (ru_ne (by omega) (ru_ne (by omega) (ru_ne (by omega) (ru_ne (by omega) (ru_ne (by omega) (ru_ne (by omega) (ru_ne (by omega) (ru_ne (by omega) (ru_ne (by omega) (ru_ne (by omega) (ru_ne (by omega) (ru_ne (by omega) (ru_ne (by omega) (ru_ne (by omega) (ru_ne (by omega) (ru_ne (by omega) (ru_ne (by omega) (ru_ne (by omega) (ru_ne (by omega) (ru_ne (by omega) (ru_ne (by omega) (ru_ne (by omega) (ru_ne (by omega) (ru_ne (by omega) (ru_ne (by omega) (ru_ne (by omega) (ru_ne (by omega) (ru_ne (by omega) (ru_ne (by omega) (ru_ne (by omega) (ru_ne (by omega) (ru_ne (by omega) ru_eq)))))))))))))))))))))))))))))))))))), (ru_ne (by omega) (ru_ne (by omega) (ru_ne (by omega) (ru_ne (by omega) (ru_ne (by omega) (ru_ne (by omega) (ru_ne (by omega) (ru_ne (by omega) (ru_ne (by omega) (ru_ne (by omega) (ru_ne (by omega) (ru_ne (by omega) (ru_ne (by omega) (ru_ne (by omega) (ru_ne (by omega) (ru_ne (by omega) (ru_ne (by omega) (ru_ne (by omega) (ru_ne (by omega) (ru_ne (by omega) (ru_ne (by omega) (ru_ne (by omega) (ru_ne (by omega) (ru_ne (by omega) (ru_ne (by omega) (ru_ne (by omega) (ru_ne (by omega) (ru_ne (by omega) (ru_ne (by omega) (ru_ne (by omega) (ru_ne (by omega) (ru_ne (by omega) (ru_ne (by omega) (ru_ne (by omega) ru_eq)))))))))))))))))))))))))))))))))), (ru_ne (by omega) (ru_ne (by omega) (ru_ne (by omega) (ru_ne (by omega) (ru_ne (by omega) (ru_ne (by omega) (ru_ne (by omega) (ru_ne (by omega) (ru_ne (by omega) (ru_ne (by omega) (ru_ne (by omega) (ru_ne (by omega) (ru_ne (by omega) (ru_ne (by omega) (ru_ne (by omega) (ru_ne (by omega) (ru_ne (by omega) (ru_ne (by omega) (ru_ne (by omega) (ru_ne (by omega) (ru_ne (by omega) (ru_ne (by omega) (ru_ne (by omega) (ru_ne (by omega) (ru_ne (by omega) (ru_ne (by omega) (ru_ne (by omega) (ru_ne (by omega) (ru_ne (by omega) (ru_ne (by omega) (ru_ne (by omega) (ru_ne (by omega) ru_eq)))))))))))))))))))))))))))))))), (ru_ne (by omega) (ru_ne (by omega) (ru_ne (by omega) (ru_ne (by omega) (ru_ne (by omega) (ru_ne (by omega) (ru_ne (by omega) (ru_ne (by omega) (ru_ne (by omega) (ru_ne (by omega) (ru_ne (by omega) (ru_ne (by omega) (ru_ne (by omega) (ru_ne (by omega) (ru_ne (by omega) (ru_ne (by omega) (ru_ne (by omega) (ru_ne (by omega) (ru_ne (by omega) (ru_ne (by omega) (ru_ne (by omega) (ru_ne (by omega) (ru_ne (by omega) (ru_ne (by omega) (ru_ne (by omega) (ru_ne (by omega) (ru_ne (by omega) (ru_ne (by omega) (ru_ne (by omega) (ru_ne (by omega) ru_eq)))))))))))))))))))))))))))))), (ru_ne (by omega) (ru_ne (by omega) (ru_ne (by omega) (ru_ne (by omega) (ru_ne (by omega) (ru_ne (by omega) (ru_ne (by omega) (ru_ne (by omega) (ru_ne (by omega) (ru_ne (by omega) (ru_ne (by omega) (ru_ne (by omega) (ru_ne (by omega) (ru_ne (by omega) (ru_ne (by omega) (ru_ne (by omega) (ru_ne (by omega) (ru_ne (by omega) (ru_ne (by omega) (ru_ne (by omega) (ru_ne (by omega) (ru_ne (by omega) (ru_ne (by omega) (ru_ne (by omega) (ru_ne (by omega) (ru_ne (by omega) (ru_ne (by omega) (ru_ne (by omega) ru_eq)))))))))))))))))))))))))))), (ru_ne (by omega) (ru_ne (by omega) (ru_ne (by omega) (ru_ne (by omega) (ru_ne (by omega) (ru_ne (by omega) (ru_ne (by omega) (ru_ne (by omega) (ru_ne (by omega) (ru_ne (by omega) (ru_ne (by omega) (ru_ne (by omega) (ru_ne (by omega) (ru_ne (by omega) (ru_ne (by omega) (ru_ne (by omega) (ru_ne (by omega) (ru_ne (by omega) (ru_ne (by omega) (ru_ne (by omega) (ru_ne (by omega) (ru_ne (by omega) (ru_ne (by omega) (ru_ne (by omega) (ru_ne (by omega) (ru_ne (by omega) ru_eq)))))))))))))))))))))))))), (ru_ne (by omega) (ru_ne (by omega) (ru_ne (by omega) (ru_ne (by omega) (ru_ne (by omega) (ru_ne (by omega) (ru_ne (by omega) (ru_ne (by omega) (ru_ne (by omega) (ru_ne (by omega) (ru_ne (by omega) (ru_ne (by omega) (ru_ne (by omega) (ru_ne (by omega) (ru_ne (by omega) (ru_ne (by omega) (ru_ne (by omega) (ru_ne (by omega) (ru_ne (by omega) (ru_ne (by omega) (ru_ne (by omega) (ru_ne (by omega) (ru_ne (by omega) (ru_ne (by omega) ru_eq)))))))))))))))))))))))), (ru_ne (by omega) (ru_ne (by omega) (ru_ne (by omega) (ru_ne (by omega) (ru_ne (by omega) (ru_ne (by omega) (ru_ne (by omega) (ru_ne (by omega) (ru_ne (by omega) (ru_ne (by omega) (ru_ne (by omega) (ru_ne (by omega) (ru_ne (by omega) (ru_ne (by omega) (ru_ne (by omega) (ru_ne (by omega) (ru_ne (by omega) (ru_ne (by omega) (ru_ne (by omega) (ru_ne (by omega) (ru_ne (by omega) (ru_ne (by omega) ru_eq)))))))))))))))))))))), (ru_ne (by omega) (ru_ne (by omega) (ru_ne (by omega) (ru_ne (by omega) (ru_ne (by omega) (ru_ne (by omega) (ru_ne (by omega) (ru_ne (by omega) (ru_ne (by omega) (ru_ne (by omega) (ru_ne (by omega) (ru_ne (by omega) (ru_ne (by omega) (ru_ne (by omega) (ru_ne (by omega) (ru_ne (by omega) (ru_ne (by omega) (ru_ne (by omega) (ru_ne (by omega) (ru_ne (by omega) ru_eq)))))))))))))))))))), (ru_ne (by omega) (ru_ne (by omega) (ru_ne (by omega) (ru_ne (by omega) (ru_ne (by omega) (ru_ne (by omega) (ru_ne (by omega) (ru_ne (by omega) (ru_ne (by omega) (ru_ne (by omega) (ru_ne (by omega) (ru_ne (by omega) (ru_ne (by omega) (ru_ne (by omega) (ru_ne (by omega) (ru_ne (by omega) (ru_ne (by omega) (ru_ne (by omega) ru_eq)))))))))))))))))), (ru_ne (by omega) (ru_ne (by omega) (ru_ne (by omega) (ru_ne (by omega) (ru_ne (by omega) (ru_ne (by omega) (ru_ne (by omega) (ru_ne (by omega) (ru_ne (by omega) (ru_ne (by omega) (ru_ne (by omega) (ru_ne (by omega) (ru_ne (by omega) (ru_ne (by omega) (ru_ne (by omega) (ru_ne (by omega) ru_eq)))))))))))))))), ru_eq, (ru_ne (by omega) (ru_ne (by omega) (ru_ne (by omega) (ru_ne (by omega) (ru_ne (by omega) (ru_ne (by omega) (ru_ne (by omega) (ru_ne (by omega) (ru_ne (by omega) (ru_ne (by omega) (ru_ne (by omega) (ru_ne (by omega) ru_eq)))))))))))), (ru_ne (by omega) (ru_ne (by omega) (ru_ne (by omega) (ru_ne (by omega) (ru_ne (by omega) (ru_ne (by omega) (ru_ne (by omega) (ru_ne (by omega) (ru_ne (by omega) (ru_ne (by omega) ru_eq)))))))))), (ru_ne (by omega) (ru_ne (by omega) (ru_ne (by omega) (ru_ne (by omega) (ru_ne (by omega) (ru_ne (by omega) (ru_ne (by omega) (ru_ne (by omega) ru_eq)))))))), (ru_ne (by omega) (ru_ne (by omega) (ru_ne (by omega) (ru_ne (by omega) (ru_ne (by omega) (ru_ne (by omega) ru_eq)))))), (ru_ne (by omega) (ru_ne (by omega) (ru_ne (by omega) (ru_ne (by omega) ru_eq)))), (ru_ne (by omega) (ru_ne (by omega) ru_eq))⟩, fun q h1 => (ru_ne (by omega) (ru_ne (by omega) (ru_ne (by omega) (ru_ne (by omega) (ru_ne (by omega) (ru_ne (by omega) (ru_ne (by omega) (ru_ne (by omega) (ru_ne (by omega) (ru_ne (by omega) (ru_ne (by omega) (ru_ne (by omega) (ru_ne (by omega) (ru_ne (by omega) (ru_ne (by omega) (ru_ne (by omega) (ru_ne (by omega) (ru_ne (by omega) (ru_ne (by omega) (ru_ne (by omega) (ru_ne (by omega) (ru_ne (by omega) (ru_ne (by omega) (ru_ne (by omega) (ru_ne (by omega) (ru_ne (by omega) (ru_ne (by omega) (ru_ne (by omega) (ru_ne (by omega) (ru_ne (by omega) (ru_ne (by omega) (ru_ne (by omega) (ru_ne (by omega) (ru_ne (by omega) (ru_ne (by omega) (ru_ne (by omega) (ru_ne (by omega) (ru_ne (by omega) (ru_ne (by omega) (ru_ne (by omega) (ru_ne (by omega) (ru_ne (by omega) (ru_ne (by omega) (ru_ne (by omega) (ru_ne (by omega) rfl)))))))))))))))))))))))))))))))))))))))))))))⟩)
end
section
theorem e_X10_isLease_0 : DC cX10_isLease 0 1 1 (.iload_n 1) := ⟨by decide +kernel, rfl⟩
theorem e_X10_isLease_1 : DJ cX10_isLease 1 16 4 (.ifCond .lt) := DJ.mk 15 (by decide +kernel) (by decide) rfl
theorem e_X10_isLease_16 : DC cX10_isLease 16 1 17 (.iconst 0) := ⟨by decide +kernel, rfl⟩
theorem e_X10_isLease_17 : DC cX10_isLease 17 1 18 (.ireturn) := ⟨by decide +kernel, rfl⟩
theorem e_X10_isLease_4 : DC cX10_isLease 4 1 5 (.iload_n 1) := ⟨by decide +kernel, rfl⟩
theorem e_X10_isLease_5 : DC cX10_isLease 5 1 6 (.aload_n 0) := ⟨by decide +kernel, rfl⟩
theorem e_X10_isLease_6 : DC cX10_isLease 6 3 9 (.invokevirtual 221) := ⟨by decide +kernel, rfl⟩
theorem e_X10_isLease_9 : DJ cX10_isLease 9 16 12 (.if_icmp .ge) := DJ.mk 7 (by decide +kernel) (by decide) rfl
theorem e_X10_isRunning_0 : DC cX10_isRunning 0 1 1 (.aload_n 0) := ⟨by decide +kernel, rfl⟩
theorem e_X10_isRunning_1 : DC cX10_isRunning 1 1 2 (.iload_n 1) := ⟨by decide +kernel, rfl⟩
theorem e_X10_isRunning_2 : DC cX10_isRunning 2 3 5 (.invokevirtual 292) := ⟨by decide +kernel, rfl⟩
theorem cb_X10_isLease : CB yX10_isLease cX10_isLease 2 (some .boolean) 1 := ⟨tb_in 1763 (by decide +kernel) (by decide +kernel), tb_in 10 (by decide +kernel) (by decide +kernel), by decide +kernel⟩
theorem ml_X10_292 : Cond.methodLink RX10 292 yX10_isLease ∈ tb := tb_in 1760 (by decide +kernel) (by decide +kernel)
theorem im_X10_isLease : Cond.instanceMethod yX10_isLease ∈ tb := tb_in 1762 (by decide +kernel) (by decide +kernel)
theorem se_X10_isLease : Cond.selects (yX10_isLease).cls yX10_isLease yX10_isLease ∈ tb := tb_sel 47 (by decide +kernel) (by decide +kernel)
theorem e_X10_isRunning_5 : DJ cX10_isRunning 5 20 8 (.ifCond .eq) := DJ.mk 15 (by decide +kernel) (by decide) rfl
theorem e_X10_isRunning_20 : DC cX10_isRunning 20 1 21 (.iconst 0) := ⟨by decide +kernel, rfl⟩
theorem e_X10_isRunning_21 : DC cX10_isRunning 21 1 22 (.ireturn) := ⟨by decide +kernel, rfl⟩
theorem e_X10_isOwn_0 : DC cX10_isOwn 0 1 1 (.aload_n 0) := ⟨by decide +kernel, rfl⟩
theorem e_X10_isOwn_1 : DC cX10_isOwn 1 1 2 (.iload_n 1) := ⟨by decide +kernel, rfl⟩
theorem e_X10_isOwn_2 : DC cX10_isOwn 2 3 5 (.invokevirtual 292) := ⟨by decide +kernel, rfl⟩
theorem e_X10_isOwn_5 : DJ cX10_isOwn 5 35 8 (.ifCond .eq) := DJ.mk 30 (by decide +kernel) (by decide) rfl
theorem e_X10_isOwn_35 : DC cX10_isOwn 35 1 36 (.iconst 0) := ⟨by decide +kernel, rfl⟩
theorem e_X10_isOwn_36 : DC cX10_isOwn 36 1 37 (.ireturn) := ⟨by decide +kernel, rfl⟩
theorem e_X10_canTake_0 : DC cX10_canTake 0 1 1 (.iload_n 1) := ⟨by decide +kernel, rfl⟩
theorem e_X10_canTake_1 : DJ cX10_canTake 1 65 4 (.ifCond .lt) := DJ.mk 64 (by decide +kernel) (by decide) rfl
theorem e_X10_canTake_65 : DC cX10_canTake 65 1 66 (.iconst 0) := ⟨by decide +kernel, rfl⟩
theorem e_X10_canTake_66 : DC cX10_canTake 66 1 67 (.ireturn) := ⟨by decide +kernel, rfl⟩
theorem e_X10_canTake_4 : DC cX10_canTake 4 1 5 (.iload_n 1) := ⟨by decide +kernel, rfl⟩
theorem e_X10_canTake_5 : DC cX10_canTake 5 1 6 (.aload_n 0) := ⟨by decide +kernel, rfl⟩
theorem e_X10_canTake_6 : DC cX10_canTake 6 3 9 (.getfield 13) := ⟨by decide +kernel, rfl⟩
theorem e_X10_canTake_9 : DC cX10_canTake 9 1 10 (.iconst 3) := ⟨by decide +kernel, rfl⟩
theorem e_X10_canTake_10 : DC cX10_canTake 10 1 11 (.iaload) := ⟨by decide +kernel, rfl⟩
theorem e_X10_canTake_11 : DJ cX10_canTake 11 65 14 (.if_icmp .ge) := DJ.mk 54 (by decide +kernel) (by decide) rfl
theorem e_X10_namedAt_0 : DC cX10_namedAt 0 1 1 (.iconst 0) := ⟨by decide +kernel, rfl⟩
theorem e_X10_namedAt_1 : DC cX10_namedAt 1 2 3 (.istore 4) := ⟨by decide +kernel, rfl⟩
theorem e_X10_namedAt_3 : DC cX10_namedAt 3 2 5 (.iload 4) := ⟨by decide +kernel, rfl⟩
theorem e_X10_namedAt_5 : DC cX10_namedAt 5 1 6 (.iload_n 2) := ⟨by decide +kernel, rfl⟩
theorem e_X10_namedAt_6 : DJ cX10_namedAt 6 31 9 (.if_icmp .ge) := DJ.mk 25 (by decide +kernel) (by decide) rfl
theorem e_X10_namedAt_31 : DC cX10_namedAt 31 1 32 (.iconst (-1)) := ⟨by decide +kernel, rfl⟩
theorem e_X10_namedAt_32 : DC cX10_namedAt 32 1 33 (.ireturn) := ⟨by decide +kernel, rfl⟩
theorem e_X10_running_0 : DC cX10_running 0 1 1 (.iconst 0) := ⟨by decide +kernel, rfl⟩
theorem e_X10_running_1 : DC cX10_running 1 1 2 (.istore_n 1) := ⟨by decide +kernel, rfl⟩
theorem e_X10_running_2 : DC cX10_running 2 1 3 (.iconst 0) := ⟨by decide +kernel, rfl⟩
theorem e_X10_running_3 : DC cX10_running 3 1 4 (.istore_n 2) := ⟨by decide +kernel, rfl⟩
theorem e_X10_running_4 : DC cX10_running 4 1 5 (.iload_n 2) := ⟨by decide +kernel, rfl⟩
theorem e_X10_running_5 : DC cX10_running 5 1 6 (.aload_n 0) := ⟨by decide +kernel, rfl⟩
theorem e_X10_running_6 : DC cX10_running 6 3 9 (.invokevirtual 221) := ⟨by decide +kernel, rfl⟩
theorem e_X10_running_9 : DJ cX10_running 9 34 12 (.if_icmp .ge) := DJ.mk 25 (by decide +kernel) (by decide) rfl
theorem e_X10_running_34 : DC cX10_running 34 1 35 (.iload_n 1) := ⟨by decide +kernel, rfl⟩
theorem e_X10_running_35 : DC cX10_running 35 1 36 (.ireturn) := ⟨by decide +kernel, rfl⟩
theorem e_X10_owedAll_0 : DC cX10_owedAll 0 1 1 (.lconst 0) := ⟨by decide +kernel, rfl⟩
theorem e_X10_owedAll_1 : DC cX10_owedAll 1 1 2 (.lstore_n 1) := ⟨by decide +kernel, rfl⟩
theorem e_X10_owedAll_2 : DC cX10_owedAll 2 1 3 (.iconst 0) := ⟨by decide +kernel, rfl⟩
theorem e_X10_owedAll_3 : DC cX10_owedAll 3 1 4 (.istore_n 3) := ⟨by decide +kernel, rfl⟩
theorem e_X10_owedAll_4 : DC cX10_owedAll 4 1 5 (.iload_n 3) := ⟨by decide +kernel, rfl⟩
theorem e_X10_owedAll_5 : DC cX10_owedAll 5 1 6 (.aload_n 0) := ⟨by decide +kernel, rfl⟩
theorem e_X10_owedAll_6 : DC cX10_owedAll 6 3 9 (.invokevirtual 221) := ⟨by decide +kernel, rfl⟩
theorem e_X10_owedAll_9 : DJ cX10_owedAll 9 34 12 (.if_icmp .ge) := DJ.mk 25 (by decide +kernel) (by decide) rfl
theorem e_X10_owedAll_34 : DC cX10_owedAll 34 1 35 (.lload_n 1) := ⟨by decide +kernel, rfl⟩
theorem e_X10_owedAll_35 : DC cX10_owedAll 35 1 36 (.lreturn) := ⟨by decide +kernel, rfl⟩
theorem e_X10_paidAll_0 : DC cX10_paidAll 0 1 1 (.lconst 0) := ⟨by decide +kernel, rfl⟩
theorem e_X10_paidAll_1 : DC cX10_paidAll 1 1 2 (.lstore_n 1) := ⟨by decide +kernel, rfl⟩
theorem e_X10_paidAll_2 : DC cX10_paidAll 2 1 3 (.iconst 0) := ⟨by decide +kernel, rfl⟩
theorem e_X10_paidAll_3 : DC cX10_paidAll 3 1 4 (.istore_n 3) := ⟨by decide +kernel, rfl⟩
theorem e_X10_paidAll_4 : DC cX10_paidAll 4 1 5 (.iload_n 3) := ⟨by decide +kernel, rfl⟩
theorem e_X10_paidAll_5 : DC cX10_paidAll 5 1 6 (.aload_n 0) := ⟨by decide +kernel, rfl⟩
theorem e_X10_paidAll_6 : DC cX10_paidAll 6 3 9 (.invokevirtual 221) := ⟨by decide +kernel, rfl⟩
theorem e_X10_paidAll_9 : DJ cX10_paidAll 9 34 12 (.if_icmp .ge) := DJ.mk 25 (by decide +kernel) (by decide) rfl
theorem e_X10_paidAll_34 : DC cX10_paidAll 34 1 35 (.lload_n 1) := ⟨by decide +kernel, rfl⟩
theorem e_X10_paidAll_35 : DC cX10_paidAll 35 1 36 (.lreturn) := ⟨by decide +kernel, rfl⟩
theorem e_X10_areAhead_0 : DC cX10_areAhead 0 1 1 (.iload_n 0) := ⟨by decide +kernel, rfl⟩
theorem e_X10_areAhead_1 : DJ cX10_areAhead 1 14 4 (.ifCond .lt) := DJ.mk 13 (by decide +kernel) (by decide) rfl
theorem e_X10_areAhead_14 : DC cX10_areAhead 14 1 15 (.iconst 0) := ⟨by decide +kernel, rfl⟩
theorem e_X10_areAhead_15 : DC cX10_areAhead 15 1 16 (.ireturn) := ⟨by decide +kernel, rfl⟩
theorem e_X10_areAhead_4 : DC cX10_areAhead 4 1 5 (.iload_n 0) := ⟨by decide +kernel, rfl⟩
theorem e_X10_areAhead_5 : DC cX10_areAhead 5 2 7 (.bipush 72) := ⟨by decide +kernel, rfl⟩
theorem e_X10_areAhead_7 : DJ cX10_areAhead 7 14 10 (.if_icmp .gt) := DJ.mk 7 (by decide +kernel) (by decide) rfl
theorem e_X10_areAhead_10 : DC cX10_areAhead 10 1 11 (.iconst 1) := ⟨by decide +kernel, rfl⟩
theorem e_X10_areAhead_11 : DJ cX10_areAhead 11 15 14 .goto := DJ.mk 4 (by decide +kernel) (by decide) rfl
theorem e_X10_copies_3 : DC cX10_copies 3 2 5 (.iload 4) := ⟨by decide +kernel, rfl⟩
theorem e_X10_copies_5 : DC cX10_copies 5 3 8 (.sipush 1113) := ⟨by decide +kernel, rfl⟩
theorem e_X10_copies_8 : DJ cX10_copies 8 29 11 (.if_icmp .ge) := DJ.mk 21 (by decide +kernel) (by decide) rfl
theorem e_X10_copies_29 : DC cX10_copies 29 1 30 (.return_) := ⟨by decide +kernel, rfl⟩
theorem e_X10_copies_11 : DC cX10_copies 11 1 12 (.aload_n 2) := ⟨by decide +kernel, rfl⟩
theorem e_X10_copies_12 : DC cX10_copies 12 1 13 (.iload_n 3) := ⟨by decide +kernel, rfl⟩
theorem e_X10_copies_13 : DC cX10_copies 13 2 15 (.iload 4) := ⟨by decide +kernel, rfl⟩
theorem e_X10_copies_15 : DC cX10_copies 15 1 16 (.iadd) := ⟨by decide +kernel, rfl⟩
theorem e_X10_copies_16 : DC cX10_copies 16 1 17 (.aload_n 0) := ⟨by decide +kernel, rfl⟩
theorem e_X10_copies_17 : DC cX10_copies 17 1 18 (.iload_n 1) := ⟨by decide +kernel, rfl⟩
theorem e_X10_copies_18 : DC cX10_copies 18 2 20 (.iload 4) := ⟨by decide +kernel, rfl⟩
theorem e_X10_copies_20 : DC cX10_copies 20 1 21 (.iadd) := ⟨by decide +kernel, rfl⟩
theorem e_X10_copies_21 : DC cX10_copies 21 1 22 (.laload) := ⟨by decide +kernel, rfl⟩
theorem e_X10_copies_22 : DC cX10_copies 22 1 23 (.lastore) := ⟨by decide +kernel, rfl⟩
theorem e_X10_copies_23 : DC cX10_copies 23 3 26 (.iinc 4 1) := ⟨by decide +kernel, rfl⟩
theorem e_X10_copies_26 : DJ cX10_copies 26 3 29 .goto := DJ.mk (-23) (by decide +kernel) (by decide) rfl
theorem e_X10_copies_0 : DC cX10_copies 0 1 1 (.iconst 0) := ⟨by decide +kernel, rfl⟩
theorem e_X10_copies_1 : DC cX10_copies 1 2 3 (.istore 4) := ⟨by decide +kernel, rfl⟩
set_option maxRecDepth 20000 in
theorem k_isLease0 (l : Launch) (V : VX) (N : Nat) (σ : Mem) (m : Nat) (v_thrown v_taped v_lines v_size v_at v_place v_sort v_value v_fault v_faultPlace v_lastFault v_lastPlace v_undoable v_hasImage v_drawn : Int32) (x : Int32) (h_obj : σ m = some (ob 8 [.int v_thrown, .ref (m + 1), .int v_taped, .ref (m + 2), .ref (m + 3), .ref (m + 4), .ref (m + 5), .ref (m + 6), .ref (m + 7), .ref (m + 8), .ref (m + 9), .ref (m + 10), .ref (m + 11), .ref (m + 12), .ref (m + 13), .ref (m + 14), .ref (m + 15), .int v_lines, .int v_size, .int v_at, .int v_place, .int v_sort, .int v_value, .int v_fault, .int v_faultPlace, .int v_lastFault, .int v_lastPlace, .ref (m + 16), .ref (m + 17), .ref (m + 18), .ref (m + 19), .ref (m + 20), .int v_undoable, .int v_hasImage, .ref (m + 21), .ref (m + 22), .int v_drawn])) (h_number : σ (m + 2) = some (aI V 10 (fun _ => 0)))  : Ct l V yX10_isLease cX10_isLease 2 (some .boolean) 1 0 0 N σ [.ref m, .int x] (fun r τ => r = some (.int 0) ∧ τ = σ) := by
  refine Ct.of (by decide) (Nat.le_of_ble_eq_true rfl) [(0, .ref m), (1, .int x)] rfl (fun X hX F hQ => ?_)
  refine m_iload_n F rfl e_X10_isLease_0 ?_
  refine m_if_lt F e_X10_isLease_1 (fun q1 => ?_) (fun q1 => ?_)
  · refine m_iconst F (v := 0) (by decide) e_X10_isLease_16 ?_
    exact m_zret F hQ e_X10_isLease_17 (by decide) (⟨rfl, rfl⟩)
  · refine m_iload_n F rfl e_X10_isLease_4 ?_
    refine m_aload_n F rfl e_X10_isLease_5 ?_
    refine m_callV F e_X10_isLease_6 (k_leases0 (x_l X) V _ _ m v_thrown v_taped v_lines v_size v_at v_place v_sort v_value v_fault v_faultPlace v_lastFault v_lastPlace v_undoable v_hasImage v_drawn  h_obj h_number ) cb_X10_leases ml_X10_221 im_X10_leases se_X10_leases h_obj rfl rfl (rest := [.int x]) rfl (Nat.le_of_ble_eq_true rfl) ⟨Nat.le_of_ble_eq_true rfl, Nat.le_of_ble_eq_true rfl⟩ ⟨Nat.le_of_ble_eq_true rfl, Nat.le_of_ble_eq_true rfl⟩ (k' := 0) (z' := 0) (N' := N) rfl rfl rfl (fun r τ hp => ?_)
    obtain ⟨rfl, rfl⟩ := hp
    refine m_icmp_ge F e_X10_isLease_9 (fun q9 => ?_) (fun q9 => absurd q9 (fun n => n (Int32.not_lt.mp q1)))
    refine m_iconst F (v := 0) (by decide) e_X10_isLease_16 ?_
    exact m_zret F hQ e_X10_isLease_17 (by decide) (⟨rfl, rfl⟩)
set_option maxRecDepth 20000 in
theorem k_isRunning0 (l : Launch) (V : VX) (N : Nat) (σ : Mem) (m : Nat) (v_thrown v_taped v_lines v_size v_at v_place v_sort v_value v_fault v_faultPlace v_lastFault v_lastPlace v_undoable v_hasImage v_drawn : Int32) (x : Int32) (h_obj : σ m = some (ob 8 [.int v_thrown, .ref (m + 1), .int v_taped, .ref (m + 2), .ref (m + 3), .ref (m + 4), .ref (m + 5), .ref (m + 6), .ref (m + 7), .ref (m + 8), .ref (m + 9), .ref (m + 10), .ref (m + 11), .ref (m + 12), .ref (m + 13), .ref (m + 14), .ref (m + 15), .int v_lines, .int v_size, .int v_at, .int v_place, .int v_sort, .int v_value, .int v_fault, .int v_faultPlace, .int v_lastFault, .int v_lastPlace, .ref (m + 16), .ref (m + 17), .ref (m + 18), .ref (m + 19), .ref (m + 20), .int v_undoable, .int v_hasImage, .ref (m + 21), .ref (m + 22), .int v_drawn])) (h_number : σ (m + 2) = some (aI V 10 (fun _ => 0)))  : Ct l V yX10_isRunning cX10_isRunning 2 (some .boolean) 2 0 0 N σ [.ref m, .int x] (fun r τ => r = some (.int 0) ∧ τ = σ) := by
  refine Ct.of (by decide) (Nat.le_of_ble_eq_true rfl) [(0, .ref m), (1, .int x)] rfl (fun X hX F hQ => ?_)
  refine m_aload_n F rfl e_X10_isRunning_0 ?_
  refine m_iload_n F rfl e_X10_isRunning_1 ?_
  refine m_callV F e_X10_isRunning_2 (k_isLease0 (x_l X) V _ _ m v_thrown v_taped v_lines v_size v_at v_place v_sort v_value v_fault v_faultPlace v_lastFault v_lastPlace v_undoable v_hasImage v_drawn x h_obj h_number ) cb_X10_isLease ml_X10_292 im_X10_isLease se_X10_isLease h_obj rfl rfl (rest := []) rfl (Nat.le_of_ble_eq_true rfl) ⟨Nat.le_of_ble_eq_true rfl, Nat.le_of_ble_eq_true rfl⟩ ⟨Nat.le_of_ble_eq_true rfl, Nat.le_of_ble_eq_true rfl⟩ (k' := 0) (z' := 0) (N' := N) rfl rfl rfl (fun r τ hp => ?_)
  obtain ⟨rfl, rfl⟩ := hp
  refine m_if_eq F e_X10_isRunning_5 (fun _ => ?_) (fun q => absurd (by decide) q)
  refine m_iconst F (v := 0) (by decide) e_X10_isRunning_20 ?_
  exact m_zret F hQ e_X10_isRunning_21 (by decide) (⟨rfl, rfl⟩)
set_option maxRecDepth 20000 in
theorem k_isOwn0 (l : Launch) (V : VX) (N : Nat) (σ : Mem) (m : Nat) (v_thrown v_taped v_lines v_size v_at v_place v_sort v_value v_fault v_faultPlace v_lastFault v_lastPlace v_undoable v_hasImage v_drawn : Int32) (x y : Int32) (h_obj : σ m = some (ob 8 [.int v_thrown, .ref (m + 1), .int v_taped, .ref (m + 2), .ref (m + 3), .ref (m + 4), .ref (m + 5), .ref (m + 6), .ref (m + 7), .ref (m + 8), .ref (m + 9), .ref (m + 10), .ref (m + 11), .ref (m + 12), .ref (m + 13), .ref (m + 14), .ref (m + 15), .int v_lines, .int v_size, .int v_at, .int v_place, .int v_sort, .int v_value, .int v_fault, .int v_faultPlace, .int v_lastFault, .int v_lastPlace, .ref (m + 16), .ref (m + 17), .ref (m + 18), .ref (m + 19), .ref (m + 20), .int v_undoable, .int v_hasImage, .ref (m + 21), .ref (m + 22), .int v_drawn])) (h_number : σ (m + 2) = some (aI V 10 (fun _ => 0)))  : Ct l V yX10_isOwn cX10_isOwn 3 (some .boolean) 2 0 0 N σ [.ref m, .int x, .int y] (fun r τ => r = some (.int 0) ∧ τ = σ) := by
  refine Ct.of (by decide) (Nat.le_of_ble_eq_true rfl) [(0, .ref m), (1, .int x), (2, .int y)] rfl (fun X hX F hQ => ?_)
  refine m_aload_n F rfl e_X10_isOwn_0 ?_
  refine m_iload_n F rfl e_X10_isOwn_1 ?_
  refine m_callV F e_X10_isOwn_2 (k_isLease0 (x_l X) V _ _ m v_thrown v_taped v_lines v_size v_at v_place v_sort v_value v_fault v_faultPlace v_lastFault v_lastPlace v_undoable v_hasImage v_drawn x h_obj h_number ) cb_X10_isLease ml_X10_292 im_X10_isLease se_X10_isLease h_obj rfl rfl (rest := []) rfl (Nat.le_of_ble_eq_true rfl) ⟨Nat.le_of_ble_eq_true rfl, Nat.le_of_ble_eq_true rfl⟩ ⟨Nat.le_of_ble_eq_true rfl, Nat.le_of_ble_eq_true rfl⟩ (k' := 0) (z' := 0) (N' := N) rfl rfl rfl (fun r τ hp => ?_)
  obtain ⟨rfl, rfl⟩ := hp
  refine m_if_eq F e_X10_isOwn_5 (fun _ => ?_) (fun q => absurd (by decide) q)
  refine m_iconst F (v := 0) (by decide) e_X10_isOwn_35 ?_
  exact m_zret F hQ e_X10_isOwn_36 (by decide) (⟨rfl, rfl⟩)
set_option maxRecDepth 20000 in
theorem k_canTake0 (l : Launch) (V : VX) (N : Nat) (σ : Mem) (m : Nat) (v_thrown v_taped v_lines v_size v_at v_place v_sort v_value v_fault v_faultPlace v_lastFault v_lastPlace v_undoable v_hasImage v_drawn : Int32) (x : Int32) (h_obj : σ m = some (ob 8 [.int v_thrown, .ref (m + 1), .int v_taped, .ref (m + 2), .ref (m + 3), .ref (m + 4), .ref (m + 5), .ref (m + 6), .ref (m + 7), .ref (m + 8), .ref (m + 9), .ref (m + 10), .ref (m + 11), .ref (m + 12), .ref (m + 13), .ref (m + 14), .ref (m + 15), .int v_lines, .int v_size, .int v_at, .int v_place, .int v_sort, .int v_value, .int v_fault, .int v_faultPlace, .int v_lastFault, .int v_lastPlace, .ref (m + 16), .ref (m + 17), .ref (m + 18), .ref (m + 19), .ref (m + 20), .int v_undoable, .int v_hasImage, .ref (m + 21), .ref (m + 22), .int v_drawn])) (h_number : σ (m + 2) = some (aI V 10 (fun _ => 0)))  : Ct l V yX10_canTake cX10_canTake 2 (some .boolean) 0 0 0 N σ [.ref m, .int x] (fun r τ => r = some (.int 0) ∧ τ = σ) := by
  refine Ct.of (by decide) (Nat.le_of_ble_eq_true rfl) [(0, .ref m), (1, .int x)] rfl (fun X hX F hQ => ?_)
  refine m_iload_n F rfl e_X10_canTake_0 ?_
  refine m_if_lt F e_X10_canTake_1 (fun q1 => ?_) (fun q1 => ?_)
  · refine m_iconst F (v := 0) (by decide) e_X10_canTake_65 ?_
    exact m_zret F hQ e_X10_canTake_66 (by decide) (⟨rfl, rfl⟩)
  · refine m_iload_n F rfl e_X10_canTake_4 ?_
    refine m_aload_n F rfl e_X10_canTake_5 ?_
    refine m_get F e_X10_canTake_6 fl_X10_13 h_obj rfl ?_
    refine m_iconst F (v := 3) (by decide) e_X10_canTake_9 ?_
    refine m_iald F (j := 3) e_X10_canTake_10 h_number (by decide) (by unfold vp_in; decide) ?_
    refine Wm.topE (w := 0) (rfl) ?_
    refine m_icmp_ge F e_X10_canTake_11 (fun q11 => ?_) (fun q11 => absurd q11 (fun n => n (Int32.not_lt.mp q1)))
    refine m_iconst F (v := 0) (by decide) e_X10_canTake_65 ?_
    exact m_zret F hQ e_X10_canTake_66 (by decide) (⟨rfl, rfl⟩)
set_option maxRecDepth 20000 in
theorem k_namedAt0 (l : Launch) (V : VX) (N : Nat) (σ : Mem) (m : Nat) (v_thrown v_taped v_lines v_size v_at v_place v_sort v_value v_fault v_faultPlace v_lastFault v_lastPlace v_undoable v_hasImage v_drawn : Int32) (x : Int32) (h_obj : σ m = some (ob 8 [.int v_thrown, .ref (m + 1), .int v_taped, .ref (m + 2), .ref (m + 3), .ref (m + 4), .ref (m + 5), .ref (m + 6), .ref (m + 7), .ref (m + 8), .ref (m + 9), .ref (m + 10), .ref (m + 11), .ref (m + 12), .ref (m + 13), .ref (m + 14), .ref (m + 15), .int v_lines, .int v_size, .int v_at, .int v_place, .int v_sort, .int v_value, .int v_fault, .int v_faultPlace, .int v_lastFault, .int v_lastPlace, .ref (m + 16), .ref (m + 17), .ref (m + 18), .ref (m + 19), .ref (m + 20), .int v_undoable, .int v_hasImage, .ref (m + 21), .ref (m + 22), .int v_drawn]))  : Ct l V yX10_namedAt cX10_namedAt 5 (some .int) 0 0 0 N σ [.ref m, .int 0, .int 0, .int x] (fun r τ => r = some (.int (-1)) ∧ τ = σ) := by
  refine Ct.of (by decide) (Nat.le_of_ble_eq_true rfl) [(0, .ref m), (1, .int 0), (2, .int 0), (3, .int x)] rfl (fun X hX F hQ => ?_)
  refine m_iconst F (v := 0) (by decide) e_X10_namedAt_0 ?_
  refine m_istore F (lv' := [(4, .int 0), (0, .ref m), (1, .int 0), (2, .int 0), (3, .int x)]) e_X10_namedAt_1 (by decide) rfl ?_
  refine m_iload F rfl e_X10_namedAt_3 ?_
  refine m_iload_n F rfl e_X10_namedAt_5 ?_
  refine m_icmp_ge F e_X10_namedAt_6 (fun _ => ?_) (fun q => absurd (by decide) q)
  refine m_iconst F (v := (-1)) (by decide) e_X10_namedAt_31 ?_
  exact m_iret F hQ e_X10_namedAt_32 (⟨rfl, rfl⟩)
set_option maxRecDepth 20000 in
theorem k_running0 (l : Launch) (V : VX) (N : Nat) (σ : Mem) (m : Nat) (v_thrown v_taped v_lines v_size v_at v_place v_sort v_value v_fault v_faultPlace v_lastFault v_lastPlace v_undoable v_hasImage v_drawn : Int32)  (h_obj : σ m = some (ob 8 [.int v_thrown, .ref (m + 1), .int v_taped, .ref (m + 2), .ref (m + 3), .ref (m + 4), .ref (m + 5), .ref (m + 6), .ref (m + 7), .ref (m + 8), .ref (m + 9), .ref (m + 10), .ref (m + 11), .ref (m + 12), .ref (m + 13), .ref (m + 14), .ref (m + 15), .int v_lines, .int v_size, .int v_at, .int v_place, .int v_sort, .int v_value, .int v_fault, .int v_faultPlace, .int v_lastFault, .int v_lastPlace, .ref (m + 16), .ref (m + 17), .ref (m + 18), .ref (m + 19), .ref (m + 20), .int v_undoable, .int v_hasImage, .ref (m + 21), .ref (m + 22), .int v_drawn])) (h_number : σ (m + 2) = some (aI V 10 (fun _ => 0)))  : Ct l V yX10_running cX10_running 3 (some .int) 1 0 0 N σ [.ref m] (fun r τ => r = some (.int 0) ∧ τ = σ) := by
  refine Ct.of (by decide) (Nat.le_of_ble_eq_true rfl) [(0, .ref m)] rfl (fun X hX F hQ => ?_)
  refine m_iconst F (v := 0) (by decide) e_X10_running_0 ?_
  refine m_istore_n F (lv' := [(1, .int 0), (0, .ref m)]) e_X10_running_1 (by decide) rfl ?_
  refine m_iconst F (v := 0) (by decide) e_X10_running_2 ?_
  refine m_istore_n F (lv' := [(2, .int 0), (1, .int 0), (0, .ref m)]) e_X10_running_3 (by decide) rfl ?_
  refine m_iload_n F rfl e_X10_running_4 ?_
  refine m_aload_n F rfl e_X10_running_5 ?_
  refine m_callV F e_X10_running_6 (k_leases0 (x_l X) V _ _ m v_thrown v_taped v_lines v_size v_at v_place v_sort v_value v_fault v_faultPlace v_lastFault v_lastPlace v_undoable v_hasImage v_drawn  h_obj h_number ) cb_X10_leases ml_X10_221 im_X10_leases se_X10_leases h_obj rfl rfl (rest := [.int 0]) rfl (Nat.le_of_ble_eq_true rfl) ⟨Nat.le_of_ble_eq_true rfl, Nat.le_of_ble_eq_true rfl⟩ ⟨Nat.le_of_ble_eq_true rfl, Nat.le_of_ble_eq_true rfl⟩ (k' := 0) (z' := 0) (N' := N) rfl rfl rfl (fun r τ hp => ?_)
  obtain ⟨rfl, rfl⟩ := hp
  refine m_icmp_ge F e_X10_running_9 (fun _ => ?_) (fun q => absurd (by decide) q)
  refine m_iload_n F rfl e_X10_running_34 ?_
  exact m_iret F hQ e_X10_running_35 (⟨rfl, rfl⟩)
set_option maxRecDepth 20000 in
theorem k_owedAll0 (l : Launch) (V : VX) (N : Nat) (σ : Mem) (m : Nat) (v_thrown v_taped v_lines v_size v_at v_place v_sort v_value v_fault v_faultPlace v_lastFault v_lastPlace v_undoable v_hasImage v_drawn : Int32)  (h_obj : σ m = some (ob 8 [.int v_thrown, .ref (m + 1), .int v_taped, .ref (m + 2), .ref (m + 3), .ref (m + 4), .ref (m + 5), .ref (m + 6), .ref (m + 7), .ref (m + 8), .ref (m + 9), .ref (m + 10), .ref (m + 11), .ref (m + 12), .ref (m + 13), .ref (m + 14), .ref (m + 15), .int v_lines, .int v_size, .int v_at, .int v_place, .int v_sort, .int v_value, .int v_fault, .int v_faultPlace, .int v_lastFault, .int v_lastPlace, .ref (m + 16), .ref (m + 17), .ref (m + 18), .ref (m + 19), .ref (m + 20), .int v_undoable, .int v_hasImage, .ref (m + 21), .ref (m + 22), .int v_drawn])) (h_number : σ (m + 2) = some (aI V 10 (fun _ => 0)))  : Ct l V yX10_owedAll cX10_owedAll 4 (some .long) 1 0 0 N σ [.ref m] (fun r τ => r = some (.long 0) ∧ τ = σ) := by
  refine Ct.of (by decide) (Nat.le_of_ble_eq_true rfl) [(0, .ref m)] rfl (fun X hX F hQ => ?_)
  refine m_lconst F (v := 0) (by decide) e_X10_owedAll_0 ?_
  refine m_lstore_n F (lv' := [(1, .long 0), (0, .ref m)]) e_X10_owedAll_1 (by decide) rfl ?_
  refine m_iconst F (v := 0) (by decide) e_X10_owedAll_2 ?_
  refine m_istore_n F (lv' := [(3, .int 0), (1, .long 0), (0, .ref m)]) e_X10_owedAll_3 (by decide) rfl ?_
  refine m_iload_n F rfl e_X10_owedAll_4 ?_
  refine m_aload_n F rfl e_X10_owedAll_5 ?_
  refine m_callV F e_X10_owedAll_6 (k_leases0 (x_l X) V _ _ m v_thrown v_taped v_lines v_size v_at v_place v_sort v_value v_fault v_faultPlace v_lastFault v_lastPlace v_undoable v_hasImage v_drawn  h_obj h_number ) cb_X10_leases ml_X10_221 im_X10_leases se_X10_leases h_obj rfl rfl (rest := [.int 0]) rfl (Nat.le_of_ble_eq_true rfl) ⟨Nat.le_of_ble_eq_true rfl, Nat.le_of_ble_eq_true rfl⟩ ⟨Nat.le_of_ble_eq_true rfl, Nat.le_of_ble_eq_true rfl⟩ (k' := 0) (z' := 0) (N' := N) rfl rfl rfl (fun r τ hp => ?_)
  obtain ⟨rfl, rfl⟩ := hp
  refine m_icmp_ge F e_X10_owedAll_9 (fun _ => ?_) (fun q => absurd (by decide) q)
  refine m_lload_n F rfl e_X10_owedAll_34 ?_
  exact m_lret F hQ e_X10_owedAll_35 (⟨rfl, rfl⟩)
set_option maxRecDepth 20000 in
theorem k_paidAll0 (l : Launch) (V : VX) (N : Nat) (σ : Mem) (m : Nat) (v_thrown v_taped v_lines v_size v_at v_place v_sort v_value v_fault v_faultPlace v_lastFault v_lastPlace v_undoable v_hasImage v_drawn : Int32)  (h_obj : σ m = some (ob 8 [.int v_thrown, .ref (m + 1), .int v_taped, .ref (m + 2), .ref (m + 3), .ref (m + 4), .ref (m + 5), .ref (m + 6), .ref (m + 7), .ref (m + 8), .ref (m + 9), .ref (m + 10), .ref (m + 11), .ref (m + 12), .ref (m + 13), .ref (m + 14), .ref (m + 15), .int v_lines, .int v_size, .int v_at, .int v_place, .int v_sort, .int v_value, .int v_fault, .int v_faultPlace, .int v_lastFault, .int v_lastPlace, .ref (m + 16), .ref (m + 17), .ref (m + 18), .ref (m + 19), .ref (m + 20), .int v_undoable, .int v_hasImage, .ref (m + 21), .ref (m + 22), .int v_drawn])) (h_number : σ (m + 2) = some (aI V 10 (fun _ => 0)))  : Ct l V yX10_paidAll cX10_paidAll 4 (some .long) 1 0 0 N σ [.ref m] (fun r τ => r = some (.long 0) ∧ τ = σ) := by
  refine Ct.of (by decide) (Nat.le_of_ble_eq_true rfl) [(0, .ref m)] rfl (fun X hX F hQ => ?_)
  refine m_lconst F (v := 0) (by decide) e_X10_paidAll_0 ?_
  refine m_lstore_n F (lv' := [(1, .long 0), (0, .ref m)]) e_X10_paidAll_1 (by decide) rfl ?_
  refine m_iconst F (v := 0) (by decide) e_X10_paidAll_2 ?_
  refine m_istore_n F (lv' := [(3, .int 0), (1, .long 0), (0, .ref m)]) e_X10_paidAll_3 (by decide) rfl ?_
  refine m_iload_n F rfl e_X10_paidAll_4 ?_
  refine m_aload_n F rfl e_X10_paidAll_5 ?_
  refine m_callV F e_X10_paidAll_6 (k_leases0 (x_l X) V _ _ m v_thrown v_taped v_lines v_size v_at v_place v_sort v_value v_fault v_faultPlace v_lastFault v_lastPlace v_undoable v_hasImage v_drawn  h_obj h_number ) cb_X10_leases ml_X10_221 im_X10_leases se_X10_leases h_obj rfl rfl (rest := [.int 0]) rfl (Nat.le_of_ble_eq_true rfl) ⟨Nat.le_of_ble_eq_true rfl, Nat.le_of_ble_eq_true rfl⟩ ⟨Nat.le_of_ble_eq_true rfl, Nat.le_of_ble_eq_true rfl⟩ (k' := 0) (z' := 0) (N' := N) rfl rfl rfl (fun r τ hp => ?_)
  obtain ⟨rfl, rfl⟩ := hp
  refine m_icmp_ge F e_X10_paidAll_9 (fun _ => ?_) (fun q => absurd (by decide) q)
  refine m_lload_n F rfl e_X10_paidAll_34 ?_
  exact m_lret F hQ e_X10_paidAll_35 (⟨rfl, rfl⟩)
set_option maxRecDepth 20000 in
theorem k_areAhead (l : Launch) (V : VX) (N : Nat) (σ : Mem) (x : Int32)  : Ct l V yX10_areAhead cX10_areAhead 1 (some .boolean) 0 0 0 N σ [.int x] (fun r τ => r = some (.int (if x < 0 ∨ 72 < x then 0 else 1)) ∧ τ = σ) := by
  refine Ct.of (by decide) (Nat.le_of_ble_eq_true rfl) [(0, .int x)] rfl (fun X hX F hQ => ?_)
  refine m_iload_n F rfl e_X10_areAhead_0 ?_
  refine m_if_lt F e_X10_areAhead_1 (fun q1 => ?_) (fun q1 => ?_)
  · refine m_iconst F (v := 0) (by decide) e_X10_areAhead_14 ?_
    exact m_zret F hQ e_X10_areAhead_15 (by decide) (⟨by rw [if_pos (Or.inl q1)], rfl⟩)
  · refine m_iload_n F rfl e_X10_areAhead_4 ?_
    refine m_bipush F (v := 72) (by decide) e_X10_areAhead_5 ?_
    refine m_icmp_gt F e_X10_areAhead_7 (fun q7 => ?_) (fun q7 => ?_)
    · refine m_iconst F (v := 0) (by decide) e_X10_areAhead_14 ?_
      exact m_zret F hQ e_X10_areAhead_15 (by decide) (⟨by rw [if_pos (Or.inr q7)], rfl⟩)
    · refine m_iconst F (v := 1) (by decide) e_X10_areAhead_10 ?_
      refine m_goto F e_X10_areAhead_11 ?_
      exact m_zret F hQ e_X10_areAhead_15 (by decide) (⟨by rw [if_neg (fun h => h.elim q1 q7)], rfl⟩)
def cpJ (f g : Nat → Int64) (a b i : Nat) : Nat → Int64 := fun j => if b ≤ j ∧ j < b + i then f (a + (j - b)) else g j
theorem cpJ_upd {f g : Nat → Int64} {a b i : Nat} : vp_updL (cpJ f g a b i) (b + i) (f (a + i)) = cpJ f g a b (i + 1) := by
  funext j
  simp only [vp_updL, cpJ]
  by_cases h1 : j = b + i
  · subst h1; rw [if_pos rfl, if_pos ⟨by omega, by omega⟩, show b + i - b = i by omega]
  · rw [if_neg h1]
    by_cases h2 : b ≤ j ∧ j < b + i
    · rw [if_pos h2, if_pos ⟨h2.1, by omega⟩]
    · rw [if_neg h2, if_neg (by omega)]
theorem cpJ_0 {f g : Nat → Int64} {a b : Nat} : cpJ f g a b 0 = g := by
  funext j; simp only [cpJ]; rw [if_neg (by omega)]
theorem cpJ_in {f g : Nat → Int64} {a b n j : Nat} (h1 : b ≤ j) (h2 : j < b + n) : cpJ f g a b n j = f (a + (j - b)) := by
  simp only [cpJ]; rw [if_pos ⟨h1, h2⟩]
theorem lp_copies {V : VX} {X : MX} {N : Nat} {σ : Mem} {Post : Option Value → Mem → Prop} (F : Fx V X yX10_copies cX10_copies 5 none (rmd 0 0 0)) (hQ : Rt V X 0 0 N Post) {p q lp lq a b : Nat} {f g : Nat → Int64} (hpq : p ≠ q) (h_p : σ p = some (aJ V lp f)) (h1 : a + 1113 ≤ lp) (h2 : b + 1113 ≤ lq) (h3 : lp < 2 ^ 30) (h4 : lq < 2 ^ 30) (hp : Post none (va_up σ q (some (aJ V lq (cpJ f g a b 1113))))) : ∀ n i : Nat, i ≤ 1113 → 1113 - i < n → Wm V X 5 N (va_up σ q (some (aJ V lq (cpJ f g a b i)))) 0 0 3 [(4, .int (nI i)), (0, .ref p), (1, .int (nI a)), (2, .ref q), (3, .int (nI b))] [] := by
  intro n
  induction n with
  | zero => intro i h1 h2; exact absurd h2 (by omega)
  | succ n ih =>
    intro i h5 h6
    refine m_iload F rfl e_X10_copies_3 ?_
    refine m_sipush F (v := 1113) (by decide) e_X10_copies_5 ?_
    refine m_icmp_ge F e_X10_copies_8 (fun q8 => ?_) (fun q8 => ?_)
    · have c8 : i ≥ 1113 := (nI_leI (a := 1113) (b := i) (by omega) (by omega)).mp q8
      have hi : i = 1113 := by omega
      subst hi
      exact m_vret F hQ e_X10_copies_29 (hp)
    · have c8 : i < 1113 := by have hh := mt (nI_leI (a := 1113) (b := i) (by omega) (by omega)).mpr q8; omega
      refine m_aload_n F rfl e_X10_copies_11 ?_
      refine m_iload_n F rfl e_X10_copies_12 ?_
      refine m_iload F rfl e_X10_copies_13 ?_
      refine m_iadd F e_X10_copies_15 ?_
      refine Wm.topE (w := nI (b + i)) (nI_add b i) ?_
      refine m_aload_n F rfl e_X10_copies_16 ?_
      refine m_iload_n F rfl e_X10_copies_17 ?_
      refine m_iload F rfl e_X10_copies_18 ?_
      refine m_iadd F e_X10_copies_20 ?_
      refine Wm.topE (w := nI (a + i)) (nI_add a i) ?_
      refine m_lald F (j := a + i) e_X10_copies_21 (ru_ne (by omega) h_p) (nI_clamp (by omega)) (vp_in_nI (by omega) (by omega)) ?_
      refine m_last F (j := b + i) e_X10_copies_22 ru_eq (nI_clamp (by omega)) (vp_in_nI (by omega) (by omega)) rfl (bx_uu _ _ _ _) ?_
      refine m_iinc F (v := nI (i + 1)) (lv' := [(4, .int (nI (i + 1))), (0, .ref p), (1, .int (nI a)), (2, .ref q), (3, .int (nI b))]) e_X10_copies_23 rfl (nI_add i 1) (by decide) rfl ?_
      refine m_goto F e_X10_copies_26 ?_
      refine Wm.memE (congrArg (fun g => va_up σ q (some (aJ V lq g))) cpJ_upd) ?_
      exact ih (i + 1) (by omega) (by omega)
set_option maxRecDepth 20000 in
theorem k_copies (l : Launch) (V : VX) (N : Nat) (σ : Mem) (p q lp lq a b : Nat) (f g : Nat → Int64) (hpq : p ≠ q) (h1 : a + 1113 ≤ lp) (h2 : b + 1113 ≤ lq) (h3 : lp < 2 ^ 30) (h4 : lq < 2 ^ 30) (h_p : σ p = some (aJ V lp f)) (h_q : σ q = some (aJ V lq g)) : Ct l V yX10_copies cX10_copies 5 none 0 0 0 N σ [.ref p, .int (nI a), .ref q, .int (nI b)] (fun r τ => r = none ∧ τ = va_up σ q (some (aJ V lq (cpJ f g a b 1113)))) := by
  refine Ct.of (by decide) (Nat.le_of_ble_eq_true rfl) [(0, .ref p), (1, .int (nI a)), (2, .ref q), (3, .int (nI b))] rfl (fun X hX F hQ => ?_)
  refine m_iconst F (v := 0) (by decide) e_X10_copies_0 ?_
  refine m_istore F (lv' := [(4, .int 0), (0, .ref p), (1, .int (nI a)), (2, .ref q), (3, .int (nI b))]) e_X10_copies_1 (by decide) rfl ?_
  refine Wm.memE (up_self h_q) ?_
  refine Wm.memE (congrArg (fun g => va_up σ q (some (aJ V lq g))) (cpJ_0 (f := f) (a := a) (b := b)).symm) ?_
  exact lp_copies F hQ hpq h_p h1 h2 h3 h4 ⟨rfl, rfl⟩ 1114 0 (by omega) (by omega)
end
section
theorem e_X10_periodGoes_0 : DC cX10_periodGoes 0 1 1 (.iconst 0) := ⟨by decide +kernel, rfl⟩
theorem e_X10_periodGoes_1 : DC cX10_periodGoes 1 1 2 (.istore_n 1) := ⟨by decide +kernel, rfl⟩
theorem e_X10_periodGoes_2 : DC cX10_periodGoes 2 1 3 (.iload_n 1) := ⟨by decide +kernel, rfl⟩
theorem e_X10_periodGoes_3 : DC cX10_periodGoes 3 1 4 (.aload_n 0) := ⟨by decide +kernel, rfl⟩
theorem e_X10_periodGoes_4 : DC cX10_periodGoes 4 3 7 (.invokevirtual 221) := ⟨by decide +kernel, rfl⟩
theorem e_X10_periodGoes_7 : DJ cX10_periodGoes 7 122 10 (.if_icmp .ge) := DJ.mk 115 (by decide +kernel) (by decide) rfl
theorem e_X10_periodGoes_122 : DC cX10_periodGoes 122 1 123 (.aload_n 0) := ⟨by decide +kernel, rfl⟩
theorem e_X10_periodGoes_123 : DC cX10_periodGoes 123 3 126 (.getfield 59) := ⟨by decide +kernel, rfl⟩
theorem e_X10_periodGoes_126 : DC cX10_periodGoes 126 3 129 (.sipush 744) := ⟨by decide +kernel, rfl⟩
theorem e_X10_periodGoes_129 : DC cX10_periodGoes 129 1 130 (.dup2) := ⟨by decide +kernel, rfl⟩
theorem e_X10_periodGoes_130 : DC cX10_periodGoes 130 1 131 (.laload) := ⟨by decide +kernel, rfl⟩
theorem e_X10_periodGoes_131 : DC cX10_periodGoes 131 1 132 (.lconst 1) := ⟨by decide +kernel, rfl⟩
theorem e_X10_periodGoes_132 : DC cX10_periodGoes 132 1 133 (.ladd) := ⟨by decide +kernel, rfl⟩
theorem e_X10_periodGoes_133 : DC cX10_periodGoes 133 1 134 (.lastore) := ⟨by decide +kernel, rfl⟩
theorem e_X10_periodGoes_134 : DC cX10_periodGoes 134 1 135 (.return_) := ⟨by decide +kernel, rfl⟩
theorem e_X10_remembers_0 : DC cX10_remembers 0 1 1 (.aload_n 0) := ⟨by decide +kernel, rfl⟩
theorem e_X10_remembers_1 : DC cX10_remembers 1 3 4 (.getfield 214) := ⟨by decide +kernel, rfl⟩
theorem fl_X10_214 : FL RX10 214 8 32 := ⟨RX10, TX10, 37, rfl, by decide, uw_8, tb_in 1492 (by decide +kernel) (by decide +kernel), rfl⟩
theorem e_X10_remembers_4 : DC cX10_remembers 4 2 6 (.bipush 20) := ⟨by decide +kernel, rfl⟩
theorem e_X10_remembers_6 : DJ cX10_remembers 6 50 9 (.if_icmp .ne) := DJ.mk 44 (by decide +kernel) (by decide) rfl
theorem e_X10_remembers_50 : DC cX10_remembers 50 1 51 (.aload_n 0) := ⟨by decide +kernel, rfl⟩
theorem e_X10_remembers_51 : DC cX10_remembers 51 3 54 (.getfield 59) := ⟨by decide +kernel, rfl⟩
theorem e_X10_remembers_54 : DC cX10_remembers 54 1 55 (.iconst 0) := ⟨by decide +kernel, rfl⟩
theorem e_X10_remembers_55 : DC cX10_remembers 55 1 56 (.aload_n 0) := ⟨by decide +kernel, rfl⟩
theorem e_X10_remembers_56 : DC cX10_remembers 56 3 59 (.getfield 72) := ⟨by decide +kernel, rfl⟩
theorem fl_X10_72 : FL RX10 72 8 31 := ⟨RX10, TX10, 37, rfl, by decide, uw_8, tb_in 1491 (by decide +kernel) (by decide +kernel), rfl⟩
theorem e_X10_remembers_59 : DC cX10_remembers 59 3 62 (.sipush 1113) := ⟨by decide +kernel, rfl⟩
theorem e_X10_remembers_62 : DC cX10_remembers 62 1 63 (.aload_n 0) := ⟨by decide +kernel, rfl⟩
theorem e_X10_remembers_63 : DC cX10_remembers 63 3 66 (.getfield 214) := ⟨by decide +kernel, rfl⟩
theorem e_X10_remembers_66 : DC cX10_remembers 66 1 67 (.imul) := ⟨by decide +kernel, rfl⟩
theorem e_X10_remembers_67 : DC cX10_remembers 67 3 70 (.invokestatic 230) := ⟨by decide +kernel, rfl⟩
theorem cb_X10_copies : CB yX10_copies cX10_copies 5 none 4 := ⟨tb_in 1714 (by decide +kernel) (by decide +kernel), tb_in 10 (by decide +kernel) (by decide +kernel), by decide +kernel⟩
theorem ml_X10_230 : Cond.methodLink RX10 230 yX10_copies ∈ tb := tb_in 1712 (by decide +kernel) (by decide +kernel)
theorem sm_X10_copies : Cond.static yX10_copies ∈ tb := tb_in 1713 (by decide +kernel) (by decide +kernel)
theorem e_X10_remembers_70 : DC cX10_remembers 70 1 71 (.aload_n 0) := ⟨by decide +kernel, rfl⟩
theorem e_X10_remembers_71 : DC cX10_remembers 71 1 72 (.dup) := ⟨by decide +kernel, rfl⟩
theorem e_X10_remembers_72 : DC cX10_remembers 72 3 75 (.getfield 214) := ⟨by decide +kernel, rfl⟩
theorem e_X10_remembers_75 : DC cX10_remembers 75 1 76 (.iconst 1) := ⟨by decide +kernel, rfl⟩
theorem e_X10_remembers_76 : DC cX10_remembers 76 1 77 (.iadd) := ⟨by decide +kernel, rfl⟩
theorem e_X10_remembers_77 : DC cX10_remembers 77 3 80 (.putfield 214) := ⟨by decide +kernel, rfl⟩
theorem fp_X10_214 : FP RX10 214 8 32 false .int := ⟨RX10, TX10, 37, tyX10, rfl, by decide, uw_8, tb_in 1492 (by decide +kernel) (by decide +kernel), rfl, rfl, by decide +kernel, tyX10_ok, nmX10⟩
theorem e_X10_remembers_80 : DC cX10_remembers 80 1 81 (.return_) := ⟨by decide +kernel, rfl⟩
theorem e_X10_back1_0 : DC cX10_back1 0 1 1 (.aload_n 0) := ⟨by decide +kernel, rfl⟩
theorem e_X10_back1_1 : DC cX10_back1 1 3 4 (.getfield 63) := ⟨by decide +kernel, rfl⟩
theorem fl_X10_63 : FL RX10 63 8 28 := ⟨RX10, TX10, 37, rfl, by decide, uw_8, tb_in 1488 (by decide +kernel) (by decide +kernel), rfl⟩
theorem e_X10_back1_4 : DC cX10_back1 4 1 5 (.iconst 0) := ⟨by decide +kernel, rfl⟩
theorem e_X10_back1_5 : DC cX10_back1 5 1 6 (.aload_n 0) := ⟨by decide +kernel, rfl⟩
theorem e_X10_back1_6 : DC cX10_back1 6 3 9 (.getfield 59) := ⟨by decide +kernel, rfl⟩
theorem e_X10_back1_9 : DC cX10_back1 9 1 10 (.iconst 0) := ⟨by decide +kernel, rfl⟩
theorem e_X10_back1_10 : DC cX10_back1 10 3 13 (.invokestatic 230) := ⟨by decide +kernel, rfl⟩
theorem e_X10_back1_13 : DC cX10_back1 13 1 14 (.return_) := ⟨by decide +kernel, rfl⟩
theorem e_X10_indexNow_0 : DC cX10_indexNow 0 1 1 (.aload_n 0) := ⟨by decide +kernel, rfl⟩
theorem e_X10_indexNow_1 : DC cX10_indexNow 1 3 4 (.getfield 59) := ⟨by decide +kernel, rfl⟩
theorem e_X10_indexNow_4 : DC cX10_indexNow 4 3 7 (.sipush 644) := ⟨by decide +kernel, rfl⟩
theorem e_X10_indexNow_7 : DC cX10_indexNow 7 1 8 (.aload_n 0) := ⟨by decide +kernel, rfl⟩
theorem e_X10_indexNow_8 : DC cX10_indexNow 8 3 11 (.getfield 59) := ⟨by decide +kernel, rfl⟩
theorem e_X10_indexNow_11 : DC cX10_indexNow 11 3 14 (.sipush 744) := ⟨by decide +kernel, rfl⟩
theorem e_X10_indexNow_14 : DC cX10_indexNow 14 1 15 (.laload) := ⟨by decide +kernel, rfl⟩
theorem e_X10_indexNow_15 : DC cX10_indexNow 15 1 16 (.l2i) := ⟨by decide +kernel, rfl⟩
theorem e_X10_indexNow_16 : DC cX10_indexNow 16 1 17 (.iadd) := ⟨by decide +kernel, rfl⟩
theorem e_X10_indexNow_17 : DC cX10_indexNow 17 1 18 (.laload) := ⟨by decide +kernel, rfl⟩
theorem e_X10_indexNow_18 : DC cX10_indexNow 18 1 19 (.lreturn) := ⟨by decide +kernel, rfl⟩
theorem e_X10_held_0 : DC cX10_held 0 1 1 (.lload_n 0) := ⟨by decide +kernel, rfl⟩
theorem e_X10_held_1 : DC cX10_held 1 3 4 (.ldc2_w 358) := ⟨by decide +kernel, rfl⟩
theorem kc_X10_358 : Cond.constantLong RX10 358 500 ∈ tb := tb_in 1966 (by decide +kernel) (by decide +kernel)
theorem e_X10_held_4 : DC cX10_held 4 1 5 (.lcmp) := ⟨by decide +kernel, rfl⟩
theorem e_X10_held_5 : DJ cX10_held 5 12 8 (.ifCond .ge) := DJ.mk 7 (by decide +kernel) (by decide) rfl
theorem e_X10_held_12 : DC cX10_held 12 1 13 (.lload_n 0) := ⟨by decide +kernel, rfl⟩
theorem e_X10_held_13 : DC cX10_held 13 3 16 (.ldc2_w 360) := ⟨by decide +kernel, rfl⟩
theorem kc_X10_360 : Cond.constantLong RX10 360 2000 ∈ tb := tb_in 1967 (by decide +kernel) (by decide +kernel)
theorem e_X10_held_16 : DC cX10_held 16 1 17 (.lcmp) := ⟨by decide +kernel, rfl⟩
theorem e_X10_held_17 : DJ cX10_held 17 24 20 (.ifCond .le) := DJ.mk 7 (by decide +kernel) (by decide) rfl
theorem e_X10_held_24 : DC cX10_held 24 1 25 (.lload_n 0) := ⟨by decide +kernel, rfl⟩
theorem e_X10_held_25 : DC cX10_held 25 1 26 (.lreturn) := ⟨by decide +kernel, rfl⟩
theorem e_X10_held_20 : DC cX10_held 20 3 23 (.ldc2_w 360) := ⟨by decide +kernel, rfl⟩
theorem e_X10_held_23 : DC cX10_held 23 1 24 (.lreturn) := ⟨by decide +kernel, rfl⟩
theorem e_X10_held_8 : DC cX10_held 8 3 11 (.ldc2_w 358) := ⟨by decide +kernel, rfl⟩
theorem e_X10_held_11 : DC cX10_held 11 1 12 (.lreturn) := ⟨by decide +kernel, rfl⟩
theorem e_X10_draw_0 : DC cX10_draw 0 1 1 (.aload_n 0) := ⟨by decide +kernel, rfl⟩
theorem e_X10_draw_1 : DC cX10_draw 1 1 2 (.aload_n 0) := ⟨by decide +kernel, rfl⟩
theorem e_X10_draw_2 : DC cX10_draw 2 3 5 (.getfield 353) := ⟨by decide +kernel, rfl⟩
theorem fl_X10_353 : FL RX10 353 8 36 := ⟨RX10, TX10, 37, rfl, by decide, uw_8, tb_in 1496 (by decide +kernel) (by decide +kernel), rfl⟩
theorem e_X10_draw_5 : DC cX10_draw 5 3 8 (.ldc_w 356) := ⟨by decide +kernel, rfl⟩
theorem kc_X10_356 : Cond.constant RX10 356 1103515245 ∈ tb := tb_in 1960 (by decide +kernel) (by decide +kernel)
theorem e_X10_draw_8 : DC cX10_draw 8 1 9 (.imul) := ⟨by decide +kernel, rfl⟩
theorem e_X10_draw_9 : DC cX10_draw 9 3 12 (.sipush 12345) := ⟨by decide +kernel, rfl⟩
theorem e_X10_draw_12 : DC cX10_draw 12 1 13 (.iadd) := ⟨by decide +kernel, rfl⟩
theorem e_X10_draw_13 : DC cX10_draw 13 3 16 (.ldc_w 357) := ⟨by decide +kernel, rfl⟩
theorem kc_X10_357 : Cond.constant RX10 357 2147483647 ∈ tb := tb_in 1961 (by decide +kernel) (by decide +kernel)
theorem e_X10_draw_16 : DC cX10_draw 16 1 17 (.iand) := ⟨by decide +kernel, rfl⟩
theorem e_X10_draw_17 : DC cX10_draw 17 3 20 (.putfield 353) := ⟨by decide +kernel, rfl⟩
theorem fp_X10_353 : FP RX10 353 8 36 false .int := ⟨RX10, TX10, 37, tyX10, rfl, by decide, uw_8, tb_in 1496 (by decide +kernel) (by decide +kernel), rfl, rfl, by decide +kernel, tyX10_ok, nmX10⟩
theorem e_X10_draw_20 : DC cX10_draw 20 1 21 (.aload_n 0) := ⟨by decide +kernel, rfl⟩
theorem e_X10_draw_21 : DC cX10_draw 21 3 24 (.getfield 353) := ⟨by decide +kernel, rfl⟩
theorem e_X10_draw_24 : DC cX10_draw 24 2 26 (.bipush 16) := ⟨by decide +kernel, rfl⟩
theorem e_X10_draw_26 : DC cX10_draw 26 1 27 (.ishr) := ⟨by decide +kernel, rfl⟩
theorem e_X10_draw_27 : DC cX10_draw 27 1 28 (.iload_n 1) := ⟨by decide +kernel, rfl⟩
theorem e_X10_draw_28 : DC cX10_draw 28 1 29 (.irem) := ⟨by decide +kernel, rfl⟩
theorem e_X10_draw_29 : DC cX10_draw 29 1 30 (.ireturn) := ⟨by decide +kernel, rfl⟩
theorem e_X10_becomes_58 : DC cX10_becomes 58 2 60 (.iload 5) := ⟨by decide +kernel, rfl⟩
theorem e_X10_becomes_60 : DC cX10_becomes 60 2 62 (.iload 4) := ⟨by decide +kernel, rfl⟩
theorem e_X10_becomes_62 : DJ cX10_becomes 62 83 65 (.if_icmp .ge) := DJ.mk 21 (by decide +kernel) (by decide) rfl
theorem e_X10_becomes_83 : DC cX10_becomes 83 1 84 (.return_) := ⟨by decide +kernel, rfl⟩
theorem e_X10_becomes_65 : DC cX10_becomes 65 1 66 (.aload_n 0) := ⟨by decide +kernel, rfl⟩
theorem e_X10_becomes_66 : DC cX10_becomes 66 3 69 (.getfield 59) := ⟨by decide +kernel, rfl⟩
theorem e_X10_becomes_69 : DC cX10_becomes 69 3 72 (.sipush 644) := ⟨by decide +kernel, rfl⟩
theorem e_X10_becomes_72 : DC cX10_becomes 72 2 74 (.iload 5) := ⟨by decide +kernel, rfl⟩
theorem e_X10_becomes_74 : DC cX10_becomes 74 1 75 (.iadd) := ⟨by decide +kernel, rfl⟩
theorem e_X10_becomes_75 : DC cX10_becomes 75 1 76 (.lload_n 1) := ⟨by decide +kernel, rfl⟩
theorem e_X10_becomes_76 : DC cX10_becomes 76 1 77 (.lastore) := ⟨by decide +kernel, rfl⟩
theorem e_X10_becomes_77 : DC cX10_becomes 77 3 80 (.iinc 5 1) := ⟨by decide +kernel, rfl⟩
theorem e_X10_becomes_80 : DJ cX10_becomes 80 58 83 .goto := DJ.mk (-22) (by decide +kernel) (by decide) rfl
theorem e_X10_becomes_0 : DC cX10_becomes 0 1 1 (.aload_n 0) := ⟨by decide +kernel, rfl⟩
theorem e_X10_becomes_1 : DC cX10_becomes 1 3 4 (.getfield 59) := ⟨by decide +kernel, rfl⟩
theorem e_X10_becomes_4 : DC cX10_becomes 4 3 7 (.sipush 744) := ⟨by decide +kernel, rfl⟩
theorem e_X10_becomes_7 : DC cX10_becomes 7 1 8 (.laload) := ⟨by decide +kernel, rfl⟩
theorem e_X10_becomes_8 : DC cX10_becomes 8 1 9 (.l2i) := ⟨by decide +kernel, rfl⟩
theorem e_X10_becomes_9 : DC cX10_becomes 9 1 10 (.istore_n 3) := ⟨by decide +kernel, rfl⟩
theorem e_X10_becomes_10 : DC cX10_becomes 10 2 12 (.bipush 100) := ⟨by decide +kernel, rfl⟩
theorem e_X10_becomes_12 : DC cX10_becomes 12 2 14 (.istore 4) := ⟨by decide +kernel, rfl⟩
theorem e_X10_becomes_14 : DC cX10_becomes 14 1 15 (.aload_n 0) := ⟨by decide +kernel, rfl⟩
theorem e_X10_becomes_15 : DC cX10_becomes 15 3 18 (.getfield 13) := ⟨by decide +kernel, rfl⟩
theorem e_X10_becomes_18 : DC cX10_becomes 18 1 19 (.iconst 2) := ⟨by decide +kernel, rfl⟩
theorem e_X10_becomes_19 : DC cX10_becomes 19 1 20 (.iaload) := ⟨by decide +kernel, rfl⟩
theorem e_X10_becomes_20 : DC cX10_becomes 20 1 21 (.iconst 1) := ⟨by decide +kernel, rfl⟩
theorem e_X10_becomes_21 : DC cX10_becomes 21 1 22 (.isub) := ⟨by decide +kernel, rfl⟩
theorem e_X10_becomes_22 : DC cX10_becomes 22 2 24 (.istore 5) := ⟨by decide +kernel, rfl⟩
theorem e_X10_becomes_24 : DC cX10_becomes 24 2 26 (.iload 5) := ⟨by decide +kernel, rfl⟩
theorem e_X10_becomes_26 : DJ cX10_becomes 26 55 29 (.ifCond .lt) := DJ.mk 29 (by decide +kernel) (by decide) rfl
theorem e_X10_becomes_55 : DC cX10_becomes 55 1 56 (.iload_n 3) := ⟨by decide +kernel, rfl⟩
theorem e_X10_becomes_56 : DC cX10_becomes 56 2 58 (.istore 5) := ⟨by decide +kernel, rfl⟩
theorem e_X10_ahead_15 : DC cX10_ahead 15 1 16 (.iload_n 2) := ⟨by decide +kernel, rfl⟩
theorem e_X10_ahead_16 : DC cX10_ahead 16 1 17 (.iload_n 1) := ⟨by decide +kernel, rfl⟩
theorem e_X10_ahead_17 : DJ cX10_ahead 17 45 20 (.if_icmp .ge) := DJ.mk 28 (by decide +kernel) (by decide) rfl
theorem e_X10_ahead_45 : DC cX10_ahead 45 1 46 (.return_) := ⟨by decide +kernel, rfl⟩
theorem e_X10_ahead_20 : DC cX10_ahead 20 1 21 (.aload_n 0) := ⟨by decide +kernel, rfl⟩
theorem e_X10_ahead_21 : DC cX10_ahead 21 3 24 (.getfield 59) := ⟨by decide +kernel, rfl⟩
theorem e_X10_ahead_24 : DC cX10_ahead 24 3 27 (.sipush 744) := ⟨by decide +kernel, rfl⟩
theorem e_X10_ahead_27 : DC cX10_ahead 27 1 28 (.laload) := ⟨by decide +kernel, rfl⟩
theorem e_X10_ahead_28 : DC cX10_ahead 28 3 31 (.ldc2_w 284) := ⟨by decide +kernel, rfl⟩
theorem kc_X10_284 : Cond.constantLong RX10 284 99 ∈ tb := tb_in 1707 (by decide +kernel) (by decide +kernel)
theorem e_X10_ahead_31 : DC cX10_ahead 31 1 32 (.lcmp) := ⟨by decide +kernel, rfl⟩
theorem e_X10_ahead_32 : DJ cX10_ahead 32 45 35 (.ifCond .ge) := DJ.mk 13 (by decide +kernel) (by decide) rfl
theorem e_X10_ahead_35 : DC cX10_ahead 35 1 36 (.aload_n 0) := ⟨by decide +kernel, rfl⟩
theorem e_X10_ahead_36 : DC cX10_ahead 36 3 39 (.invokevirtual 289) := ⟨by decide +kernel, rfl⟩
theorem cb_X10_periodGoes : CB yX10_periodGoes cX10_periodGoes 3 none 0 := ⟨tb_in 1718 (by decide +kernel) (by decide +kernel), tb_in 10 (by decide +kernel) (by decide +kernel), by decide +kernel⟩
theorem ml_X10_289 : Cond.methodLink RX10 289 yX10_periodGoes ∈ tb := tb_in 1715 (by decide +kernel) (by decide +kernel)
theorem im_X10_periodGoes : Cond.instanceMethod yX10_periodGoes ∈ tb := tb_in 1717 (by decide +kernel) (by decide +kernel)
theorem se_X10_periodGoes : Cond.selects (yX10_periodGoes).cls yX10_periodGoes yX10_periodGoes ∈ tb := tb_sel 37 (by decide +kernel) (by decide +kernel)
theorem e_X10_ahead_39 : DC cX10_ahead 39 3 42 (.iinc 2 1) := ⟨by decide +kernel, rfl⟩
theorem e_X10_ahead_42 : DJ cX10_ahead 42 15 45 .goto := DJ.mk (-27) (by decide +kernel) (by decide) rfl
theorem e_X10_ahead_0 : DC cX10_ahead 0 1 1 (.aload_n 0) := ⟨by decide +kernel, rfl⟩
theorem e_X10_ahead_1 : DC cX10_ahead 1 3 4 (.getfield 59) := ⟨by decide +kernel, rfl⟩
theorem e_X10_ahead_4 : DC cX10_ahead 4 1 5 (.iconst 0) := ⟨by decide +kernel, rfl⟩
theorem e_X10_ahead_5 : DC cX10_ahead 5 1 6 (.aload_n 0) := ⟨by decide +kernel, rfl⟩
theorem e_X10_ahead_6 : DC cX10_ahead 6 3 9 (.getfield 63) := ⟨by decide +kernel, rfl⟩
theorem e_X10_ahead_9 : DC cX10_ahead 9 1 10 (.iconst 0) := ⟨by decide +kernel, rfl⟩
theorem e_X10_ahead_10 : DC cX10_ahead 10 3 13 (.invokestatic 230) := ⟨by decide +kernel, rfl⟩
theorem e_X10_ahead_13 : DC cX10_ahead 13 1 14 (.iconst 0) := ⟨by decide +kernel, rfl⟩
theorem e_X10_ahead_14 : DC cX10_ahead 14 1 15 (.istore_n 2) := ⟨by decide +kernel, rfl⟩
def ME (V : VX) (τ : Mem) (m u : Nat) (hi dr : Int32) (p pa pf : Nat) : Prop := τ m = some (ob 8 [.int 0, .ref (m + 1), .int 0, .ref (m + 2), .ref (m + 3), .ref (m + 4), .ref (m + 5), .ref (m + 6), .ref (m + 7), .ref (m + 8), .ref (m + 9), .ref (m + 10), .ref (m + 11), .ref (m + 12), .ref (m + 13), .ref (m + 14), .ref (m + 15), .int 0, .int 0, .int 0, .int 0, .int 0, .int 0, .int 0, .int 0, .int 0, .int (-1), .ref (m + 16), .ref (m + 17), .ref (m + 18), .ref (m + 19), .ref (m + 20), .int (nI u), .int hi, .ref (m + 21), .ref (m + 22), .int dr]) ∧ τ (m + 2) = some (aI V 10 (fun _ => 0)) ∧ ∃ f g1 g2 g3 g4 : Nat → Int64, τ (m + 16) = some (aJ V 1113 f) ∧ τ (m + 17) = some (aJ V 1113 g1) ∧ τ (m + 18) = some (aJ V 1113 g2) ∧ τ (m + 19) = some (aJ V 1113 g3) ∧ τ (m + 20) = some (aJ V 22260 g4) ∧ f 744 = lN p ∧ g1 744 = lN pa ∧ g2 744 = lN pf
set_option maxRecDepth 20000 in
theorem k_periodGoes0 (l : Launch) (V : VX) (N : Nat) (σ : Mem) (m u : Nat) (hi dr : Int32) (p pa pf : Nat)  (hM : ME V σ m u hi dr p pa pf)  : Ct l V yX10_periodGoes cX10_periodGoes 3 none 1 0 0 N σ [.ref m] (fun r τ => r = none ∧ ME V τ m u hi dr (p + 1) pa pf) := by
  refine Ct.of (by decide) (Nat.le_of_ble_eq_true rfl) [(0, .ref m)] rfl (fun X hX F hQ => ?_)
  obtain ⟨ho25, hn25, f25, ga25, gf25, gi25, gk25, hs25, ha25, hfu25, him25, hk25, ef25, ea25, eu25⟩ := hM
  refine m_iconst F (v := 0) (by decide) e_X10_periodGoes_0 ?_
  refine m_istore_n F (lv' := [(1, .int 0), (0, .ref m)]) e_X10_periodGoes_1 (by decide) rfl ?_
  refine m_iload_n F rfl e_X10_periodGoes_2 ?_
  refine m_aload_n F rfl e_X10_periodGoes_3 ?_
  refine m_callV F e_X10_periodGoes_4 (k_leases0 (x_l X) V _ _ m 0 0 0 0 0 0 0 0 0 0 0 (-1) (nI u) hi dr  ho25 hn25 ) cb_X10_leases ml_X10_221 im_X10_leases se_X10_leases ho25 rfl rfl (rest := [.int 0]) rfl (Nat.le_of_ble_eq_true rfl) ⟨Nat.le_of_ble_eq_true rfl, Nat.le_of_ble_eq_true rfl⟩ ⟨Nat.le_of_ble_eq_true rfl, Nat.le_of_ble_eq_true rfl⟩ (k' := 0) (z' := 0) (N' := N) rfl rfl rfl (fun r τ hp => ?_)
  obtain ⟨rfl, rfl⟩ := hp
  refine m_icmp_ge F e_X10_periodGoes_7 (fun _ => ?_) (fun q => absurd (by decide) q)
  refine m_aload_n F rfl e_X10_periodGoes_122 ?_
  refine m_get F e_X10_periodGoes_123 fl_X10_59 ho25 rfl ?_
  refine m_sipush F (v := 744) (by decide) e_X10_periodGoes_126 ?_
  refine m_dup2_11 F rfl rfl e_X10_periodGoes_129 ?_
  refine m_lald F (j := 744) e_X10_periodGoes_130 hs25 (by decide) (by unfold vp_in; decide) ?_
  refine Wm.toplE (w := lN p) (ef25) ?_
  refine m_lconst F (v := 1) (by decide) e_X10_periodGoes_131 ?_
  refine m_ladd F e_X10_periodGoes_132 ?_
  refine Wm.toplE (w := lN (p + 1)) (lN_add p 1) ?_
  refine m_last F (j := 744) e_X10_periodGoes_133 hs25 (by decide) (by unfold vp_in; decide) rfl rfl ?_
  exact m_vret F hQ e_X10_periodGoes_134 (⟨rfl, ⟨(ru_ne (by omega) ho25), (ru_ne (by omega) hn25), (vp_updL f25 744 (lN (p + 1))), ga25, gf25, gi25, gk25, ru_eq, (ru_ne (by omega) ha25), (ru_ne (by omega) hfu25), (ru_ne (by omega) him25), (ru_ne (by omega) hk25), (by simp [vp_updL]), ea25, eu25⟩⟩)
set_option maxRecDepth 20000 in
theorem k_remembers0 (l : Launch) (V : VX) (N : Nat) (σ : Mem) (m u : Nat) (hi dr : Int32) (p pa pf : Nat)  (hM : ME V σ m u hi dr p pa pf) (hu : u < 20) : Ct l V yX10_remembers cX10_remembers 2 none 1 0 0 N σ [.ref m] (fun r τ => r = none ∧ ME V τ m (u + 1) hi dr p pa pf) := by
  refine Ct.of (by decide) (Nat.le_of_ble_eq_true rfl) [(0, .ref m)] rfl (fun X hX F hQ => ?_)
  obtain ⟨ho26, hn26, f26, ga26, gf26, gi26, gk26, hs26, ha26, hfu26, him26, hk26, ef26, ea26, eu26⟩ := hM
  refine m_aload_n F rfl e_X10_remembers_0 ?_
  refine m_get F e_X10_remembers_1 fl_X10_214 ho26 rfl ?_
  refine m_bipush F (v := 20) (by decide) e_X10_remembers_4 ?_
  refine m_icmp_ne F e_X10_remembers_6 (fun q6 => ?_) (fun q6 => ?_)
  · have c6 : u ≠ 20 := by have hh := mt (nI_eq (a := u) (b := 20) (by omega) (by omega)).mpr q6; omega
    refine m_aload_n F rfl e_X10_remembers_50 ?_
    refine m_get F e_X10_remembers_51 fl_X10_59 ho26 rfl ?_
    refine m_iconst F (v := 0) (by decide) e_X10_remembers_54 ?_
    refine m_aload_n F rfl e_X10_remembers_55 ?_
    refine m_get F e_X10_remembers_56 fl_X10_72 ho26 rfl ?_
    refine m_sipush F (v := 1113) (by decide) e_X10_remembers_59 ?_
    refine m_aload_n F rfl e_X10_remembers_62 ?_
    refine m_get F e_X10_remembers_63 fl_X10_214 ho26 rfl ?_
    refine m_imul F e_X10_remembers_66 ?_
    refine Wm.topE (w := nI (1113 * u)) (pk_mul 1113 u) ?_
    refine m_callS F e_X10_remembers_67 (k_copies (x_l X) V _ _ (m + 16) (m + 20) 1113 22260 0 (1113 * u) f26 gk26 (by omega) (by omega) (by omega) (by omega) (by omega) hs26 hk26) cb_X10_copies ml_X10_230 sm_X10_copies rfl (rest := []) rfl (Nat.le_of_ble_eq_true rfl) ⟨Nat.le_of_ble_eq_true rfl, Nat.le_of_ble_eq_true rfl⟩ ⟨Nat.le_of_ble_eq_true rfl, Nat.le_of_ble_eq_true rfl⟩ (k' := 0) (z' := 0) (N' := N) rfl rfl rfl (fun r τ hp => ?_)
    obtain ⟨rfl, rfl⟩ := hp
    refine m_aload_n F rfl e_X10_remembers_70 ?_
    refine m_dup F rfl e_X10_remembers_71 ?_
    refine m_get F e_X10_remembers_72 fl_X10_214 (ru_ne (by omega) ho26) rfl ?_
    refine m_iconst F (v := 1) (by decide) e_X10_remembers_75 ?_
    refine m_iadd F e_X10_remembers_76 ?_
    refine Wm.topE (w := nI (u + 1)) (nI_add u 1) ?_
    refine m_put F e_X10_remembers_77 fp_X10_214 (ru_ne (by omega) ho26) rfl rfl (Nat.le_of_ble_eq_true rfl) (fs' := [.int 0, .ref (m + 1), .int 0, .ref (m + 2), .ref (m + 3), .ref (m + 4), .ref (m + 5), .ref (m + 6), .ref (m + 7), .ref (m + 8), .ref (m + 9), .ref (m + 10), .ref (m + 11), .ref (m + 12), .ref (m + 13), .ref (m + 14), .ref (m + 15), .int 0, .int 0, .int 0, .int 0, .int 0, .int 0, .int 0, .int 0, .int 0, .int (-1), .ref (m + 16), .ref (m + 17), .ref (m + 18), .ref (m + 19), .ref (m + 20), .int (nI (u + 1)), .int hi, .ref (m + 21), .ref (m + 22), .int dr]) rfl rfl ?_
    exact m_vret F hQ e_X10_remembers_80 (⟨rfl, ⟨ru_eq, (ru_ne (by omega) (ru_ne (by omega) hn26)), f26, ga26, gf26, gi26, (cpJ f26 gk26 0 (1113 * u) 1113), (ru_ne (by omega) (ru_ne (by omega) hs26)), (ru_ne (by omega) (ru_ne (by omega) ha26)), (ru_ne (by omega) (ru_ne (by omega) hfu26)), (ru_ne (by omega) (ru_ne (by omega) him26)), (ru_ne (by omega) ru_eq), ef26, ea26, eu26⟩⟩)
  · have c6 : u = 20 := (nI_eq (a := u) (b := 20) (by omega) (by omega)).mp q6
    exfalso; omega
set_option maxRecDepth 20000 in
theorem k_back1 (l : Launch) (V : VX) (N : Nat) (σ : Mem) (m u : Nat) (hi dr : Int32) (p pa pf : Nat)  (hM : ME V σ m u hi dr p pa pf)  : Ct l V yX10_back1 cX10_back1 1 none 1 0 0 N σ [.ref m] (fun r τ => r = none ∧ ME V τ m u hi dr pa pa pf) := by
  refine Ct.of (by decide) (Nat.le_of_ble_eq_true rfl) [(0, .ref m)] rfl (fun X hX F hQ => ?_)
  obtain ⟨ho27, hn27, f27, ga27, gf27, gi27, gk27, hs27, ha27, hfu27, him27, hk27, ef27, ea27, eu27⟩ := hM
  refine m_aload_n F rfl e_X10_back1_0 ?_
  refine m_get F e_X10_back1_1 fl_X10_63 ho27 rfl ?_
  refine m_iconst F (v := 0) (by decide) e_X10_back1_4 ?_
  refine m_aload_n F rfl e_X10_back1_5 ?_
  refine m_get F e_X10_back1_6 fl_X10_59 ho27 rfl ?_
  refine m_iconst F (v := 0) (by decide) e_X10_back1_9 ?_
  refine m_callS F e_X10_back1_10 (k_copies (x_l X) V _ _ (m + 17) (m + 16) 1113 1113 0 0 ga27 f27 (by omega) (by omega) (by omega) (by omega) (by omega) ha27 hs27) cb_X10_copies ml_X10_230 sm_X10_copies rfl (rest := []) rfl (Nat.le_of_ble_eq_true rfl) ⟨Nat.le_of_ble_eq_true rfl, Nat.le_of_ble_eq_true rfl⟩ ⟨Nat.le_of_ble_eq_true rfl, Nat.le_of_ble_eq_true rfl⟩ (k' := 0) (z' := 0) (N' := N) rfl rfl rfl (fun r τ hp => ?_)
  obtain ⟨rfl, rfl⟩ := hp
  exact m_vret F hQ e_X10_back1_13 (⟨rfl, ⟨(ru_ne (by omega) ho27), (ru_ne (by omega) hn27), (cpJ ga27 f27 0 0 1113), ga27, gf27, gi27, gk27, ru_eq, (ru_ne (by omega) ha27), (ru_ne (by omega) hfu27), (ru_ne (by omega) him27), (ru_ne (by omega) hk27), ((cpJ_in (by omega) (by omega)).trans ea27), ea27, eu27⟩⟩)
set_option maxRecDepth 20000 in
theorem k_indexNow0 (l : Launch) (V : VX) (N : Nat) (σ : Mem) (m u : Nat) (hi dr : Int32) (p pa pf : Nat) (hM : ME V σ m u hi dr p pa pf) (hpp : p < 100) : Ct l V yX10_indexNow cX10_indexNow 1 (some .long) 0 0 0 N σ [.ref m] (fun r τ => ∃ z : Int64, r = some (.long z) ∧ τ = σ) := by
  refine Ct.of (by decide) (Nat.le_of_ble_eq_true rfl) [(0, .ref m)] rfl (fun X hX F hQ => ?_)
  obtain ⟨ho28, hn28, f28, ga28, gf28, gi28, gk28, hs28, ha28, hfu28, him28, hk28, ef28, ea28, eu28⟩ := hM
  refine m_aload_n F rfl e_X10_indexNow_0 ?_
  refine m_get F e_X10_indexNow_1 fl_X10_59 ho28 rfl ?_
  refine m_sipush F (v := 644) (by decide) e_X10_indexNow_4 ?_
  refine m_aload_n F rfl e_X10_indexNow_7 ?_
  refine m_get F e_X10_indexNow_8 fl_X10_59 ho28 rfl ?_
  refine m_sipush F (v := 744) (by decide) e_X10_indexNow_11 ?_
  refine m_lald F (j := 744) e_X10_indexNow_14 hs28 (by decide) (by unfold vp_in; decide) ?_
  refine Wm.toplE (w := lN p) (ef28) ?_
  refine m_l2i F e_X10_indexNow_15 ?_
  refine Wm.topE (w := nI p) (lN_i p) ?_
  refine m_iadd F e_X10_indexNow_16 ?_
  refine Wm.topE (w := nI (644 + p)) (nI_add 644 p) ?_
  refine m_lald F (j := 644 + p) e_X10_indexNow_17 hs28 (nI_clamp (by omega)) (vp_in_nI (by omega) (by omega)) ?_
  exact m_lret F hQ e_X10_indexNow_18 (⟨_, rfl, rfl⟩)
set_option maxRecDepth 20000 in
theorem k_held (l : Launch) (V : VX) (N : Nat) (σ : Mem) (v : Int64)  : Ct l V yX10_held cX10_held 2 (some .long) 0 0 0 N σ [.long v] (fun r τ => ∃ z : Int64, r = some (.long z) ∧ τ = σ) := by
  refine Ct.of (by decide) (Nat.le_of_ble_eq_true rfl) [(0, .long v)] rfl (fun X hX F hQ => ?_)
  refine m_lload_n F rfl e_X10_held_0 ?_
  refine m_ldc2 F kc_X10_358 e_X10_held_1 ?_
  refine m_lcmp F e_X10_held_4 ?_
  refine m_if_ge F e_X10_held_5 (fun q5 => ?_) (fun q5 => ?_)
  · refine m_lload_n F rfl e_X10_held_12 ?_
    refine m_ldc2 F kc_X10_360 e_X10_held_13 ?_
    refine m_lcmp F e_X10_held_16 ?_
    refine m_if_le F e_X10_held_17 (fun q17 => ?_) (fun q17 => ?_)
    · refine m_lload_n F rfl e_X10_held_24 ?_
      exact m_lret F hQ e_X10_held_25 (⟨_, rfl, rfl⟩)
    · refine m_ldc2 F kc_X10_360 e_X10_held_20 ?_
      exact m_lret F hQ e_X10_held_23 (⟨_, rfl, rfl⟩)
  · refine m_ldc2 F kc_X10_358 e_X10_held_8 ?_
    exact m_lret F hQ e_X10_held_11 (⟨_, rfl, rfl⟩)
set_option maxRecDepth 20000 in
theorem k_draw0 (l : Launch) (V : VX) (N : Nat) (σ : Mem) (m u : Nat) (hi dr : Int32) (p pa pf : Nat)  (hM : ME V σ m u hi dr p pa pf)  : Ct l V yX10_draw cX10_draw 2 (some .int) 0 0 0 N σ [.ref m, .int 21] (fun r τ => ∃ (z : Int32) (dn : Int32), r = some (.int z) ∧ ME V τ m u hi dn p pa pf) := by
  refine Ct.of (by decide) (Nat.le_of_ble_eq_true rfl) [(0, .ref m), (1, .int 21)] rfl (fun X hX F hQ => ?_)
  obtain ⟨ho29, hn29, f29, ga29, gf29, gi29, gk29, hs29, ha29, hfu29, him29, hk29, ef29, ea29, eu29⟩ := hM
  refine m_aload_n F rfl e_X10_draw_0 ?_
  refine m_aload_n F rfl e_X10_draw_1 ?_
  refine m_get F e_X10_draw_2 fl_X10_353 ho29 rfl ?_
  refine m_ldcw F kc_X10_356 e_X10_draw_5 ?_
  refine m_imul F e_X10_draw_8 ?_
  refine m_sipush F (v := 12345) (by decide) e_X10_draw_9 ?_
  refine m_iadd F e_X10_draw_12 ?_
  refine m_ldcw F kc_X10_357 e_X10_draw_13 ?_
  refine m_iand F e_X10_draw_16 ?_
  refine m_put F e_X10_draw_17 fp_X10_353 ho29 rfl rfl (Nat.le_of_ble_eq_true rfl) (fs' := [.int 0, .ref (m + 1), .int 0, .ref (m + 2), .ref (m + 3), .ref (m + 4), .ref (m + 5), .ref (m + 6), .ref (m + 7), .ref (m + 8), .ref (m + 9), .ref (m + 10), .ref (m + 11), .ref (m + 12), .ref (m + 13), .ref (m + 14), .ref (m + 15), .int 0, .int 0, .int 0, .int 0, .int 0, .int 0, .int 0, .int 0, .int 0, .int (-1), .ref (m + 16), .ref (m + 17), .ref (m + 18), .ref (m + 19), .ref (m + 20), .int (nI u), .int hi, .ref (m + 21), .ref (m + 22), .int (((dr * 1103515245) + 12345) &&& 2147483647)]) rfl rfl ?_
  refine m_aload_n F rfl e_X10_draw_20 ?_
  refine m_get F e_X10_draw_21 fl_X10_353 ru_eq rfl ?_
  refine m_bipush F (v := 16) (by decide) e_X10_draw_24 ?_
  refine m_ishr F e_X10_draw_26 ?_
  refine m_iload_n F rfl e_X10_draw_27 ?_
  refine m_irem F (by decide) e_X10_draw_28 ?_
  exact m_iret F hQ e_X10_draw_29 (⟨_, _, rfl, ⟨ru_eq, (ru_ne (by omega) hn29), f29, ga29, gf29, gi29, gk29, (ru_ne (by omega) hs29), (ru_ne (by omega) ha29), (ru_ne (by omega) hfu29), (ru_ne (by omega) him29), (ru_ne (by omega) hk29), ef29, ea29, eu29⟩⟩)
theorem lp_becomes0 {V : VX} {X : MX} {N : Nat} {σ : Mem} {Post : Option Value → Mem → Prop} (F : Fx V X yX10_becomes cX10_becomes 6 none (rmd 0 0 0)) (hQ : Rt V X 0 0 N Post) {m u : Nat} {hi dr : Int32} {p : Nat} {v : Int64} (h_obj : σ m = some (ob 8 [.int 0, .ref (m + 1), .int 0, .ref (m + 2), .ref (m + 3), .ref (m + 4), .ref (m + 5), .ref (m + 6), .ref (m + 7), .ref (m + 8), .ref (m + 9), .ref (m + 10), .ref (m + 11), .ref (m + 12), .ref (m + 13), .ref (m + 14), .ref (m + 15), .int 0, .int 0, .int 0, .int 0, .int 0, .int 0, .int 0, .int 0, .int 0, .int (-1), .ref (m + 16), .ref (m + 17), .ref (m + 18), .ref (m + 19), .ref (m + 20), .int (nI u), .int hi, .ref (m + 21), .ref (m + 22), .int dr])) (hpp : p < 100) (hp : ∀ f : Nat → Int64, f 744 = lN p → Post none (va_up σ (m + 16) (some (aJ V 1113 f)))) : ∀ (n i : Nat) (f : Nat → Int64), i ≤ 100 → 100 - i < n → f 744 = lN p → Wm V X 6 N (va_up σ (m + 16) (some (aJ V 1113 f))) 0 0 58 [(5, .int (nI i)), (0, .ref m), (1, .long v), (3, .int (nI p)), (4, .int 100)] [] := by
  intro n
  induction n with
  | zero => intro i f h1 h2; exact absurd h2 (by omega)
  | succ n ih =>
    intro i f h1 h2 hf
    refine m_iload F rfl e_X10_becomes_58 ?_
    refine m_iload F rfl e_X10_becomes_60 ?_
    refine m_icmp_ge F e_X10_becomes_62 (fun q62 => ?_) (fun q62 => ?_)
    · have c62 : i ≥ 100 := (nI_leI (a := 100) (b := i) (by omega) (by omega)).mp q62
      exact m_vret F hQ e_X10_becomes_83 (hp f hf)
    · have c62 : i < 100 := by have hh := mt (nI_leI (a := 100) (b := i) (by omega) (by omega)).mpr q62; omega
      refine m_aload_n F rfl e_X10_becomes_65 ?_
      refine m_get F e_X10_becomes_66 fl_X10_59 (ru_ne (by omega) h_obj) rfl ?_
      refine m_sipush F (v := 644) (by decide) e_X10_becomes_69 ?_
      refine m_iload F rfl e_X10_becomes_72 ?_
      refine m_iadd F e_X10_becomes_74 ?_
      refine Wm.topE (w := nI (644 + i)) (nI_add 644 i) ?_
      refine m_lload_n F rfl e_X10_becomes_75 ?_
      refine m_last F (j := 644 + i) e_X10_becomes_76 ru_eq (nI_clamp (by omega)) (vp_in_nI (by omega) (by omega)) rfl (bx_uu _ _ _ _) ?_
      refine m_iinc F (v := nI (i + 1)) (lv' := [(5, .int (nI (i + 1))), (0, .ref m), (1, .long v), (3, .int (nI p)), (4, .int 100)]) e_X10_becomes_77 rfl (nI_add i 1) (by decide) rfl ?_
      refine m_goto F e_X10_becomes_80 ?_
      exact ih (i + 1) (vp_updL f (644 + i) v) (by omega) (by omega) (by simp only [vp_updL]; rw [if_neg (by omega)]; exact hf)
set_option maxRecDepth 20000 in
theorem k_becomes0 (l : Launch) (V : VX) (N : Nat) (σ : Mem) (m u : Nat) (hi dr : Int32) (p pa pf : Nat) (v : Int64) (hM : ME V σ m u hi dr p pa pf) (hpp : p < 100) : Ct l V yX10_becomes cX10_becomes 6 none 0 0 0 N σ [.ref m, .long v] (fun r τ => r = none ∧ ME V τ m u hi dr p pa pf) := by
  refine Ct.of (by decide) (Nat.le_of_ble_eq_true rfl) [(0, .ref m), (1, .long v)] rfl (fun X hX F hQ => ?_)
  obtain ⟨ho30, hn30, f30, ga30, gf30, gi30, gk30, hs30, ha30, hfu30, him30, hk30, ef30, ea30, eu30⟩ := hM
  refine m_aload_n F rfl e_X10_becomes_0 ?_
  refine m_get F e_X10_becomes_1 fl_X10_59 ho30 rfl ?_
  refine m_sipush F (v := 744) (by decide) e_X10_becomes_4 ?_
  refine m_lald F (j := 744) e_X10_becomes_7 hs30 (by decide) (by unfold vp_in; decide) ?_
  refine Wm.toplE (w := lN p) (ef30) ?_
  refine m_l2i F e_X10_becomes_8 ?_
  refine Wm.topE (w := nI p) (lN_i p) ?_
  refine m_istore_n F (lv' := [(3, .int (nI p)), (0, .ref m), (1, .long v)]) e_X10_becomes_9 (by decide) rfl ?_
  refine m_bipush F (v := 100) (by decide) e_X10_becomes_10 ?_
  refine m_istore F (lv' := [(4, .int 100), (3, .int (nI p)), (0, .ref m), (1, .long v)]) e_X10_becomes_12 (by decide) rfl ?_
  refine m_aload_n F rfl e_X10_becomes_14 ?_
  refine m_get F e_X10_becomes_15 fl_X10_13 ho30 rfl ?_
  refine m_iconst F (v := 2) (by decide) e_X10_becomes_18 ?_
  refine m_iald F (j := 2) e_X10_becomes_19 hn30 (by decide) (by unfold vp_in; decide) ?_
  refine Wm.topE (w := 0) (rfl) ?_
  refine m_iconst F (v := 1) (by decide) e_X10_becomes_20 ?_
  refine m_isub F e_X10_becomes_21 ?_
  refine Wm.topE (w := (-1)) (by decide) ?_
  refine m_istore F (lv' := [(5, .int (-1)), (4, .int 100), (3, .int (nI p)), (0, .ref m), (1, .long v)]) e_X10_becomes_22 (by decide) rfl ?_
  refine m_iload F rfl e_X10_becomes_24 ?_
  refine m_if_lt F e_X10_becomes_26 (fun _ => ?_) (fun q => absurd (by decide) q)
  refine m_iload_n F rfl e_X10_becomes_55 ?_
  refine m_istore F (lv' := [(5, .int (nI p)), (4, .int 100), (3, .int (nI p)), (0, .ref m), (1, .long v)]) e_X10_becomes_56 (by decide) rfl ?_
  refine Wm.lvsub (lv' := [(5, .int (nI p)), (0, .ref m), (1, .long v), (3, .int (nI p)), (4, .int 100)]) ?_ [0, 3, 4, 2, 1] rfl
  refine Wm.memE (up_self hs30) ?_
  exact lp_becomes0 F hQ ho30 hpp (fun f9 e9 => ⟨rfl, (ru_ne (by omega) ho30), (ru_ne (by omega) hn30), f9, _, _, _, _, ru_eq, (ru_ne (by omega) ha30), (ru_ne (by omega) hfu30), (ru_ne (by omega) him30), (ru_ne (by omega) hk30), e9, ea30, eu30⟩) 101 p _ (by omega) (by omega) ef30
theorem lp_ahead0 {V : VX} {X : MX} {N : Nat} {Post : Option Value → Mem → Prop} (F : Fx V X yX10_ahead cX10_ahead 3 none (rmd 2 0 0)) (hQ : Rt V X 0 0 N Post) {m u : Nat} {hi dr : Int32} {p pf k : Nat} (hk : p + k < 99) (hp : ∀ τ : Mem, ME V τ m u hi dr (p + k) p pf → Post none τ) : ∀ (n i : Nat) (τ : Mem), i ≤ k → k - i < n → ME V τ m u hi dr (p + i) p pf → Wm V X 3 N τ 0 0 15 [(2, .int (nI i)), (0, .ref m), (1, .int (nI k))] [] := by
  intro n
  induction n with
  | zero => intro i τ h1 h2; exact absurd h2 (by omega)
  | succ n ih =>
    intro i τ h1 h2 hM
    obtain ⟨ho31, hn31, f31, ga31, gf31, gi31, gk31, hs31, ha31, hfu31, him31, hk31, ef31, ea31, eu31⟩ := hM
    refine m_iload_n F rfl e_X10_ahead_15 ?_
    refine m_iload_n F rfl e_X10_ahead_16 ?_
    refine m_icmp_ge F e_X10_ahead_17 (fun q17 => ?_) (fun q17 => ?_)
    · have c17 : i ≥ k := (nI_leI (a := k) (b := i) (by omega) (by omega)).mp q17
      have hi9 : i = k := by omega
      subst hi9
      exact m_vret F hQ e_X10_ahead_45 (hp _ ⟨ho31, hn31, f31, ga31, gf31, gi31, gk31, hs31, ha31, hfu31, him31, hk31, ef31, ea31, eu31⟩)
    · have c17 : i < k := by have hh := mt (nI_leI (a := k) (b := i) (by omega) (by omega)).mpr q17; omega
      refine m_aload_n F rfl e_X10_ahead_20 ?_
      refine m_get F e_X10_ahead_21 fl_X10_59 ho31 rfl ?_
      refine m_sipush F (v := 744) (by decide) e_X10_ahead_24 ?_
      refine m_lald F (j := 744) e_X10_ahead_27 hs31 (by decide) (by unfold vp_in; decide) ?_
      refine Wm.toplE (w := lN (p + i)) (ef31) ?_
      refine m_ldc2 F kc_X10_284 e_X10_ahead_28 ?_
      refine m_lcmp F e_X10_ahead_31 ?_
      refine m_if_ge F e_X10_ahead_32 (fun q32 => ?_) (fun q32 => ?_)
      · have c32 : (p + i) ≥ 99 := (lN_le (a := 99) (b := (p + i)) (by omega) (by omega)).mp ((lg_cmp_ge _ _).mp q32)
        exfalso; omega
      · have c32 : (p + i) < 99 := by have hh := mt (fun h9 => (lg_cmp_ge (lN (p + i)) (lN 99)).mpr ((lN_le (a := 99) (b := (p + i)) (by omega) (by omega)).mpr h9)) q32; omega
        refine m_aload_n F rfl e_X10_ahead_35 ?_
        refine m_callV F e_X10_ahead_36 (k_periodGoes0 (x_l X) V _ _ m u hi dr (p + i) p pf  ⟨ho31, hn31, f31, ga31, gf31, gi31, gk31, hs31, ha31, hfu31, him31, hk31, ef31, ea31, eu31⟩ ) cb_X10_periodGoes ml_X10_289 im_X10_periodGoes se_X10_periodGoes ho31 rfl rfl (rest := []) rfl (Nat.le_of_ble_eq_true rfl) ⟨Nat.le_of_ble_eq_true rfl, Nat.le_of_ble_eq_true rfl⟩ ⟨Nat.le_of_ble_eq_true rfl, Nat.le_of_ble_eq_true rfl⟩ (k' := 0) (z' := 0) (N' := N) rfl rfl rfl (fun r τ32 hp => ?_)
        obtain ⟨rfl, hp⟩ := hp
        obtain ⟨ho33, hn33, f33, ga33, gf33, gi33, gk33, hs33, ha33, hfu33, him33, hk33, ef33, ea33, eu33⟩ := hp
        refine m_iinc F (v := nI (i + 1)) (lv' := [(2, .int (nI (i + 1))), (0, .ref m), (1, .int (nI k))]) e_X10_ahead_39 rfl (nI_add i 1) (by decide) rfl ?_
        refine m_goto F e_X10_ahead_42 ?_
        exact ih (i + 1) _ (by omega) (by omega) ⟨ho33, hn33, f33, ga33, gf33, gi33, gk33, hs33, ha33, hfu33, him33, hk33, ef33, ea33, eu33⟩
set_option maxRecDepth 20000 in
theorem k_ahead0 (l : Launch) (V : VX) (N : Nat) (σ : Mem) (m u : Nat) (hi dr : Int32) (p pa pf : Nat) (k : Nat) (hM : ME V σ m u hi dr p pa pf) (hk : p + k < 99) : Ct l V yX10_ahead cX10_ahead 3 none 2 0 0 N σ [.ref m, .int (nI k)] (fun r τ => r = none ∧ ME V τ m u hi dr (p + k) p pf) := by
  refine Ct.of (by decide) (Nat.le_of_ble_eq_true rfl) [(0, .ref m), (1, .int (nI k))] rfl (fun X hX F hQ => ?_)
  obtain ⟨ho34, hn34, f34, ga34, gf34, gi34, gk34, hs34, ha34, hfu34, him34, hk34, ef34, ea34, eu34⟩ := hM
  refine m_aload_n F rfl e_X10_ahead_0 ?_
  refine m_get F e_X10_ahead_1 fl_X10_59 ho34 rfl ?_
  refine m_iconst F (v := 0) (by decide) e_X10_ahead_4 ?_
  refine m_aload_n F rfl e_X10_ahead_5 ?_
  refine m_get F e_X10_ahead_6 fl_X10_63 ho34 rfl ?_
  refine m_iconst F (v := 0) (by decide) e_X10_ahead_9 ?_
  refine m_callS F e_X10_ahead_10 (k_copies (x_l X) V _ _ (m + 16) (m + 17) 1113 1113 0 0 f34 ga34 (by omega) (by omega) (by omega) (by omega) (by omega) hs34 ha34) cb_X10_copies ml_X10_230 sm_X10_copies rfl (rest := []) rfl (Nat.le_of_ble_eq_true rfl) ⟨Nat.le_of_ble_eq_true rfl, Nat.le_of_ble_eq_true rfl⟩ ⟨Nat.le_of_ble_eq_true rfl, Nat.le_of_ble_eq_true rfl⟩ (k' := 0) (z' := 0) (N' := N) rfl rfl rfl (fun r τ hp => ?_)
  obtain ⟨rfl, rfl⟩ := hp
  refine m_iconst F (v := 0) (by decide) e_X10_ahead_13 ?_
  refine m_istore_n F (lv' := [(2, .int 0), (0, .ref m), (1, .int (nI k))]) e_X10_ahead_14 (by decide) rfl ?_
  exact lp_ahead0 F hQ hk (fun τ h => ⟨rfl, h⟩) (k + 1) 0 _ (by omega) (by omega) ⟨(ru_ne (by omega) ho34), (ru_ne (by omega) hn34), f34, (cpJ f34 ga34 0 0 1113), gf34, gi34, gk34, (ru_ne (by omega) hs34), ru_eq, (ru_ne (by omega) hfu34), (ru_ne (by omega) him34), (ru_ne (by omega) hk34), ef34, ((cpJ_in (by omega) (by omega)).trans ef34), eu34⟩
end
section
theorem e_X10_amount_0 : DC cX10_amount 0 1 1 (.aload_n 0) := ⟨by decide +kernel, rfl⟩
theorem e_X10_amount_1 : DC cX10_amount 1 1 2 (.iconst 0) := ⟨by decide +kernel, rfl⟩
theorem e_X10_amount_2 : DC cX10_amount 2 3 5 (.putfield 91) := ⟨by decide +kernel, rfl⟩
theorem fp_X10_91 : FP RX10 91 8 0 false .int := ⟨RX10, TX10, 37, tyX10, rfl, by decide, uw_8, tb_in 1460 (by decide +kernel) (by decide +kernel), rfl, rfl, by decide +kernel, tyX10_ok, nmX10⟩
theorem e_X10_amount_5 : DC cX10_amount 5 1 6 (.aload_n 0) := ⟨by decide +kernel, rfl⟩
theorem e_X10_amount_6 : DC cX10_amount 6 1 7 (.iload_n 1) := ⟨by decide +kernel, rfl⟩
theorem e_X10_amount_7 : DC cX10_amount 7 3 10 (.invokevirtual 292) := ⟨by decide +kernel, rfl⟩
theorem e_X10_amount_10 : DJ cX10_amount 10 40 13 (.ifCond .eq) := DJ.mk 30 (by decide +kernel) (by decide) rfl
theorem e_X10_amount_40 : DC cX10_amount 40 3 43 (.ldc2_w 245) := ⟨by decide +kernel, rfl⟩
theorem kc_X10_245 : Cond.constantLong RX10 245 (-1) ∈ tb := tb_in 1445 (by decide +kernel) (by decide +kernel)
theorem e_X10_amount_43 : DC cX10_amount 43 1 44 (.lreturn) := ⟨by decide +kernel, rfl⟩
theorem e_X10_due_0 : DC cX10_due 0 1 1 (.aload_n 0) := ⟨by decide +kernel, rfl⟩
theorem e_X10_due_1 : DC cX10_due 1 1 2 (.iconst 0) := ⟨by decide +kernel, rfl⟩
theorem e_X10_due_2 : DC cX10_due 2 3 5 (.putfield 91) := ⟨by decide +kernel, rfl⟩
theorem e_X10_due_5 : DC cX10_due 5 1 6 (.aload_n 0) := ⟨by decide +kernel, rfl⟩
theorem e_X10_due_6 : DC cX10_due 6 1 7 (.iload_n 1) := ⟨by decide +kernel, rfl⟩
theorem e_X10_due_7 : DC cX10_due 7 1 8 (.iload_n 2) := ⟨by decide +kernel, rfl⟩
theorem e_X10_due_8 : DC cX10_due 8 3 11 (.invokevirtual 295) := ⟨by decide +kernel, rfl⟩
theorem cb_X10_isOwn : CB yX10_isOwn cX10_isOwn 3 (some .boolean) 2 := ⟨tb_in 1775 (by decide +kernel) (by decide +kernel), tb_in 10 (by decide +kernel) (by decide +kernel), by decide +kernel⟩
theorem ml_X10_295 : Cond.methodLink RX10 295 yX10_isOwn ∈ tb := tb_in 1772 (by decide +kernel) (by decide +kernel)
theorem im_X10_isOwn : Cond.instanceMethod yX10_isOwn ∈ tb := tb_in 1774 (by decide +kernel) (by decide +kernel)
theorem se_X10_isOwn : Cond.selects (yX10_isOwn).cls yX10_isOwn yX10_isOwn ∈ tb := tb_sel 48 (by decide +kernel) (by decide +kernel)
theorem e_X10_due_11 : DJ cX10_due 11 34 14 (.ifCond .eq) := DJ.mk 23 (by decide +kernel) (by decide) rfl
theorem e_X10_due_34 : DC cX10_due 34 3 37 (.ldc2_w 245) := ⟨by decide +kernel, rfl⟩
theorem e_X10_due_37 : DC cX10_due 37 1 38 (.lreturn) := ⟨by decide +kernel, rfl⟩
theorem e_X10_worth_0 : DC cX10_worth 0 1 1 (.aload_n 0) := ⟨by decide +kernel, rfl⟩
theorem e_X10_worth_1 : DC cX10_worth 1 1 2 (.iconst 0) := ⟨by decide +kernel, rfl⟩
theorem e_X10_worth_2 : DC cX10_worth 2 3 5 (.putfield 91) := ⟨by decide +kernel, rfl⟩
theorem e_X10_worth_5 : DC cX10_worth 5 1 6 (.aload_n 0) := ⟨by decide +kernel, rfl⟩
theorem e_X10_worth_6 : DC cX10_worth 6 1 7 (.iload_n 1) := ⟨by decide +kernel, rfl⟩
theorem e_X10_worth_7 : DC cX10_worth 7 1 8 (.iload_n 2) := ⟨by decide +kernel, rfl⟩
theorem e_X10_worth_8 : DC cX10_worth 8 3 11 (.invokevirtual 295) := ⟨by decide +kernel, rfl⟩
theorem e_X10_worth_11 : DJ cX10_worth 11 41 14 (.ifCond .eq) := DJ.mk 30 (by decide +kernel) (by decide) rfl
theorem e_X10_worth_41 : DC cX10_worth 41 3 44 (.ldc2_w 245) := ⟨by decide +kernel, rfl⟩
theorem e_X10_worth_44 : DC cX10_worth 44 1 45 (.lreturn) := ⟨by decide +kernel, rfl⟩
theorem e_X10_plan_0 : DC cX10_plan 0 1 1 (.aload_n 0) := ⟨by decide +kernel, rfl⟩
theorem e_X10_plan_1 : DC cX10_plan 1 1 2 (.iconst 0) := ⟨by decide +kernel, rfl⟩
theorem e_X10_plan_2 : DC cX10_plan 2 3 5 (.putfield 91) := ⟨by decide +kernel, rfl⟩
theorem e_X10_plan_5 : DC cX10_plan 5 1 6 (.aload_n 0) := ⟨by decide +kernel, rfl⟩
theorem e_X10_plan_6 : DC cX10_plan 6 1 7 (.iload_n 1) := ⟨by decide +kernel, rfl⟩
theorem e_X10_plan_7 : DC cX10_plan 7 3 10 (.invokevirtual 292) := ⟨by decide +kernel, rfl⟩
theorem e_X10_plan_10 : DJ cX10_plan 10 29 13 (.ifCond .eq) := DJ.mk 19 (by decide +kernel) (by decide) rfl
theorem e_X10_plan_29 : DC cX10_plan 29 3 32 (.ldc2_w 245) := ⟨by decide +kernel, rfl⟩
theorem e_X10_plan_32 : DC cX10_plan 32 1 33 (.lreturn) := ⟨by decide +kernel, rfl⟩
theorem e_X10_soon_0 : DC cX10_soon 0 1 1 (.aload_n 0) := ⟨by decide +kernel, rfl⟩
theorem e_X10_soon_1 : DC cX10_soon 1 1 2 (.iconst 0) := ⟨by decide +kernel, rfl⟩
theorem e_X10_soon_2 : DC cX10_soon 2 3 5 (.putfield 91) := ⟨by decide +kernel, rfl⟩
theorem e_X10_soon_5 : DC cX10_soon 5 1 6 (.aload_n 0) := ⟨by decide +kernel, rfl⟩
theorem e_X10_soon_6 : DC cX10_soon 6 1 7 (.iload_n 1) := ⟨by decide +kernel, rfl⟩
theorem e_X10_soon_7 : DC cX10_soon 7 3 10 (.invokevirtual 292) := ⟨by decide +kernel, rfl⟩
theorem e_X10_soon_10 : DJ cX10_soon 10 22 13 (.ifCond .eq) := DJ.mk 12 (by decide +kernel) (by decide) rfl
theorem e_X10_soon_22 : DC cX10_soon 22 3 25 (.ldc2_w 245) := ⟨by decide +kernel, rfl⟩
theorem e_X10_soon_25 : DC cX10_soon 25 1 26 (.lreturn) := ⟨by decide +kernel, rfl⟩
theorem e_X10_life_0 : DC cX10_life 0 1 1 (.aload_n 0) := ⟨by decide +kernel, rfl⟩
theorem e_X10_life_1 : DC cX10_life 1 1 2 (.iconst 0) := ⟨by decide +kernel, rfl⟩
theorem e_X10_life_2 : DC cX10_life 2 3 5 (.putfield 91) := ⟨by decide +kernel, rfl⟩
theorem e_X10_life_5 : DC cX10_life 5 1 6 (.aload_n 0) := ⟨by decide +kernel, rfl⟩
theorem e_X10_life_6 : DC cX10_life 6 1 7 (.iload_n 1) := ⟨by decide +kernel, rfl⟩
theorem e_X10_life_7 : DC cX10_life 7 3 10 (.invokevirtual 292) := ⟨by decide +kernel, rfl⟩
theorem e_X10_life_10 : DJ cX10_life 10 17 13 (.ifCond .ne) := DJ.mk 7 (by decide +kernel) (by decide) rfl
theorem e_X10_life_13 : DC cX10_life 13 3 16 (.ldc2_w 245) := ⟨by decide +kernel, rfl⟩
theorem e_X10_life_16 : DC cX10_life 16 1 17 (.lreturn) := ⟨by decide +kernel, rfl⟩
theorem e_X10_ifIndex_0 : DC cX10_ifIndex 0 1 1 (.aload_n 0) := ⟨by decide +kernel, rfl⟩
theorem e_X10_ifIndex_1 : DC cX10_ifIndex 1 1 2 (.iconst 0) := ⟨by decide +kernel, rfl⟩
theorem e_X10_ifIndex_2 : DC cX10_ifIndex 2 3 5 (.putfield 91) := ⟨by decide +kernel, rfl⟩
theorem e_X10_ifIndex_5 : DC cX10_ifIndex 5 1 6 (.aload_n 0) := ⟨by decide +kernel, rfl⟩
theorem e_X10_ifIndex_6 : DC cX10_ifIndex 6 1 7 (.iload_n 1) := ⟨by decide +kernel, rfl⟩
theorem e_X10_ifIndex_7 : DC cX10_ifIndex 7 3 10 (.invokevirtual 292) := ⟨by decide +kernel, rfl⟩
theorem e_X10_ifIndex_10 : DJ cX10_ifIndex 10 27 13 (.ifCond .eq) := DJ.mk 17 (by decide +kernel) (by decide) rfl
theorem e_X10_ifIndex_27 : DC cX10_ifIndex 27 3 30 (.ldc2_w 245) := ⟨by decide +kernel, rfl⟩
theorem e_X10_ifIndex_30 : DC cX10_ifIndex 30 1 31 (.lreturn) := ⟨by decide +kernel, rfl⟩
theorem e_X10_moved_0 : DC cX10_moved 0 1 1 (.aload_n 0) := ⟨by decide +kernel, rfl⟩
theorem e_X10_moved_1 : DC cX10_moved 1 1 2 (.iconst 0) := ⟨by decide +kernel, rfl⟩
theorem e_X10_moved_2 : DC cX10_moved 2 3 5 (.putfield 91) := ⟨by decide +kernel, rfl⟩
theorem e_X10_moved_5 : DC cX10_moved 5 1 6 (.aload_n 0) := ⟨by decide +kernel, rfl⟩
theorem e_X10_moved_6 : DC cX10_moved 6 1 7 (.iload_n 1) := ⟨by decide +kernel, rfl⟩
theorem e_X10_moved_7 : DC cX10_moved 7 3 10 (.invokevirtual 292) := ⟨by decide +kernel, rfl⟩
theorem e_X10_moved_10 : DJ cX10_moved 10 40 13 (.ifCond .eq) := DJ.mk 30 (by decide +kernel) (by decide) rfl
theorem e_X10_moved_40 : DC cX10_moved 40 3 43 (.ldc2_w 299) := ⟨by decide +kernel, rfl⟩
theorem kc_X10_299 : Cond.constantLong RX10 299 (-9223372036854775808) ∈ tb := tb_in 1788 (by decide +kernel) (by decide +kernel)
theorem e_X10_moved_43 : DC cX10_moved 43 1 44 (.lreturn) := ⟨by decide +kernel, rfl⟩
theorem e_X10_rate_0 : DC cX10_rate 0 1 1 (.aload_n 0) := ⟨by decide +kernel, rfl⟩
theorem e_X10_rate_1 : DC cX10_rate 1 1 2 (.iconst 0) := ⟨by decide +kernel, rfl⟩
theorem e_X10_rate_2 : DC cX10_rate 2 3 5 (.putfield 91) := ⟨by decide +kernel, rfl⟩
theorem e_X10_rate_5 : DC cX10_rate 5 1 6 (.aload_n 0) := ⟨by decide +kernel, rfl⟩
theorem e_X10_rate_6 : DC cX10_rate 6 1 7 (.iload_n 1) := ⟨by decide +kernel, rfl⟩
theorem e_X10_rate_7 : DC cX10_rate 7 3 10 (.invokevirtual 301) := ⟨by decide +kernel, rfl⟩
theorem cb_X10_isRunning : CB yX10_isRunning cX10_isRunning 2 (some .boolean) 1 := ⟨tb_in 1808 (by decide +kernel) (by decide +kernel), tb_in 10 (by decide +kernel) (by decide +kernel), by decide +kernel⟩
theorem ml_X10_301 : Cond.methodLink RX10 301 yX10_isRunning ∈ tb := tb_in 1805 (by decide +kernel) (by decide +kernel)
theorem im_X10_isRunning : Cond.instanceMethod yX10_isRunning ∈ tb := tb_in 1807 (by decide +kernel) (by decide +kernel)
theorem se_X10_isRunning : Cond.selects (yX10_isRunning).cls yX10_isRunning yX10_isRunning ∈ tb := tb_sel 49 (by decide +kernel) (by decide +kernel)
theorem e_X10_rate_10 : DJ cX10_rate 10 23 13 (.ifCond .eq) := DJ.mk 13 (by decide +kernel) (by decide) rfl
theorem e_X10_rate_23 : DC cX10_rate 23 3 26 (.ldc2_w 299) := ⟨by decide +kernel, rfl⟩
theorem e_X10_rate_26 : DC cX10_rate 26 1 27 (.lreturn) := ⟨by decide +kernel, rfl⟩
theorem e_X10_extend_0 : DC cX10_extend 0 1 1 (.aload_n 0) := ⟨by decide +kernel, rfl⟩
theorem e_X10_extend_1 : DC cX10_extend 1 1 2 (.iconst 0) := ⟨by decide +kernel, rfl⟩
theorem e_X10_extend_2 : DC cX10_extend 2 3 5 (.putfield 91) := ⟨by decide +kernel, rfl⟩
theorem e_X10_extend_5 : DC cX10_extend 5 1 6 (.aload_n 0) := ⟨by decide +kernel, rfl⟩
theorem e_X10_extend_6 : DC cX10_extend 6 1 7 (.iload_n 1) := ⟨by decide +kernel, rfl⟩
theorem e_X10_extend_7 : DC cX10_extend 7 3 10 (.invokevirtual 301) := ⟨by decide +kernel, rfl⟩
theorem e_X10_extend_10 : DJ cX10_extend 10 33 13 (.ifCond .eq) := DJ.mk 23 (by decide +kernel) (by decide) rfl
theorem e_X10_extend_33 : DC cX10_extend 33 3 36 (.ldc2_w 299) := ⟨by decide +kernel, rfl⟩
theorem e_X10_extend_36 : DC cX10_extend 36 1 37 (.lreturn) := ⟨by decide +kernel, rfl⟩
theorem e_X10_take_0 : DC cX10_take 0 1 1 (.aload_n 0) := ⟨by decide +kernel, rfl⟩
theorem e_X10_take_1 : DC cX10_take 1 1 2 (.iconst 0) := ⟨by decide +kernel, rfl⟩
theorem e_X10_take_2 : DC cX10_take 2 3 5 (.putfield 91) := ⟨by decide +kernel, rfl⟩
theorem e_X10_take_5 : DC cX10_take 5 1 6 (.aload_n 0) := ⟨by decide +kernel, rfl⟩
theorem e_X10_take_6 : DC cX10_take 6 1 7 (.iload_n 1) := ⟨by decide +kernel, rfl⟩
theorem e_X10_take_7 : DC cX10_take 7 3 10 (.invokevirtual 313) := ⟨by decide +kernel, rfl⟩
theorem cb_X10_canTake : CB yX10_canTake cX10_canTake 2 (some .boolean) 1 := ⟨tb_in 1829 (by decide +kernel) (by decide +kernel), tb_in 10 (by decide +kernel) (by decide +kernel), by decide +kernel⟩
theorem ml_X10_313 : Cond.methodLink RX10 313 yX10_canTake ∈ tb := tb_in 1826 (by decide +kernel) (by decide +kernel)
theorem im_X10_canTake : Cond.instanceMethod yX10_canTake ∈ tb := tb_in 1828 (by decide +kernel) (by decide +kernel)
theorem se_X10_canTake : Cond.selects (yX10_canTake).cls yX10_canTake yX10_canTake ∈ tb := tb_sel 52 (by decide +kernel) (by decide +kernel)
theorem e_X10_take_10 : DJ cX10_take 10 17 13 (.ifCond .ne) := DJ.mk 7 (by decide +kernel) (by decide) rfl
theorem e_X10_take_13 : DC cX10_take 13 3 16 (.ldc2_w 299) := ⟨by decide +kernel, rfl⟩
theorem e_X10_take_16 : DC cX10_take 16 1 17 (.lreturn) := ⟨by decide +kernel, rfl⟩
theorem e_X10_part_0 : DC cX10_part 0 1 1 (.aload_n 0) := ⟨by decide +kernel, rfl⟩
theorem e_X10_part_1 : DC cX10_part 1 1 2 (.iconst 0) := ⟨by decide +kernel, rfl⟩
theorem e_X10_part_2 : DC cX10_part 2 3 5 (.putfield 91) := ⟨by decide +kernel, rfl⟩
theorem e_X10_part_5 : DC cX10_part 5 1 6 (.aload_n 0) := ⟨by decide +kernel, rfl⟩
theorem e_X10_part_6 : DC cX10_part 6 1 7 (.iload_n 1) := ⟨by decide +kernel, rfl⟩
theorem e_X10_part_7 : DC cX10_part 7 3 10 (.invokevirtual 301) := ⟨by decide +kernel, rfl⟩
theorem e_X10_part_10 : DJ cX10_part 10 25 13 (.ifCond .eq) := DJ.mk 15 (by decide +kernel) (by decide) rfl
theorem e_X10_part_25 : DC cX10_part 25 3 28 (.ldc2_w 299) := ⟨by decide +kernel, rfl⟩
theorem e_X10_part_28 : DC cX10_part 28 1 29 (.lreturn) := ⟨by decide +kernel, rfl⟩
theorem e_X10_end_0 : DC cX10_end 0 1 1 (.aload_n 0) := ⟨by decide +kernel, rfl⟩
theorem e_X10_end_1 : DC cX10_end 1 1 2 (.iconst 0) := ⟨by decide +kernel, rfl⟩
theorem e_X10_end_2 : DC cX10_end 2 3 5 (.putfield 91) := ⟨by decide +kernel, rfl⟩
theorem e_X10_end_5 : DC cX10_end 5 1 6 (.aload_n 0) := ⟨by decide +kernel, rfl⟩
theorem e_X10_end_6 : DC cX10_end 6 1 7 (.iload_n 1) := ⟨by decide +kernel, rfl⟩
theorem e_X10_end_7 : DC cX10_end 7 3 10 (.invokevirtual 301) := ⟨by decide +kernel, rfl⟩
theorem e_X10_end_10 : DJ cX10_end 10 17 13 (.ifCond .ne) := DJ.mk 7 (by decide +kernel) (by decide) rfl
theorem e_X10_end_13 : DC cX10_end 13 3 16 (.ldc2_w 299) := ⟨by decide +kernel, rfl⟩
theorem e_X10_end_16 : DC cX10_end 16 1 17 (.lreturn) := ⟨by decide +kernel, rfl⟩
theorem e_X10_putOff_0 : DC cX10_putOff 0 1 1 (.aload_n 0) := ⟨by decide +kernel, rfl⟩
theorem e_X10_putOff_1 : DC cX10_putOff 1 1 2 (.iconst 0) := ⟨by decide +kernel, rfl⟩
theorem e_X10_putOff_2 : DC cX10_putOff 2 3 5 (.putfield 91) := ⟨by decide +kernel, rfl⟩
theorem e_X10_putOff_5 : DC cX10_putOff 5 1 6 (.aload_n 0) := ⟨by decide +kernel, rfl⟩
theorem e_X10_putOff_6 : DC cX10_putOff 6 1 7 (.iload_n 1) := ⟨by decide +kernel, rfl⟩
theorem e_X10_putOff_7 : DC cX10_putOff 7 3 10 (.invokevirtual 301) := ⟨by decide +kernel, rfl⟩
theorem e_X10_putOff_10 : DJ cX10_putOff 10 54 13 (.ifCond .eq) := DJ.mk 44 (by decide +kernel) (by decide) rfl
theorem e_X10_putOff_54 : DC cX10_putOff 54 3 57 (.ldc2_w 299) := ⟨by decide +kernel, rfl⟩
theorem e_X10_putOff_57 : DC cX10_putOff 57 1 58 (.lreturn) := ⟨by decide +kernel, rfl⟩
theorem e_X10_ifTaken_0 : DC cX10_ifTaken 0 1 1 (.aload_n 0) := ⟨by decide +kernel, rfl⟩
theorem e_X10_ifTaken_1 : DC cX10_ifTaken 1 1 2 (.iconst 0) := ⟨by decide +kernel, rfl⟩
theorem e_X10_ifTaken_2 : DC cX10_ifTaken 2 3 5 (.putfield 91) := ⟨by decide +kernel, rfl⟩
theorem e_X10_ifTaken_5 : DC cX10_ifTaken 5 1 6 (.aload_n 0) := ⟨by decide +kernel, rfl⟩
theorem e_X10_ifTaken_6 : DC cX10_ifTaken 6 1 7 (.iload_n 1) := ⟨by decide +kernel, rfl⟩
theorem e_X10_ifTaken_7 : DC cX10_ifTaken 7 3 10 (.invokevirtual 313) := ⟨by decide +kernel, rfl⟩
theorem e_X10_ifTaken_10 : DJ cX10_ifTaken 10 17 13 (.ifCond .ne) := DJ.mk 7 (by decide +kernel) (by decide) rfl
theorem e_X10_ifTaken_13 : DC cX10_ifTaken 13 3 16 (.ldc2_w 299) := ⟨by decide +kernel, rfl⟩
theorem e_X10_ifTaken_16 : DC cX10_ifTaken 16 1 17 (.lreturn) := ⟨by decide +kernel, rfl⟩
theorem e_X10_down_0 : DC cX10_down 0 1 1 (.aload_n 0) := ⟨by decide +kernel, rfl⟩
theorem e_X10_down_1 : DC cX10_down 1 1 2 (.iconst 0) := ⟨by decide +kernel, rfl⟩
theorem e_X10_down_2 : DC cX10_down 2 3 5 (.putfield 91) := ⟨by decide +kernel, rfl⟩
theorem e_X10_down_5 : DC cX10_down 5 1 6 (.aload_n 0) := ⟨by decide +kernel, rfl⟩
theorem e_X10_down_6 : DC cX10_down 6 1 7 (.iload_n 1) := ⟨by decide +kernel, rfl⟩
theorem e_X10_down_7 : DC cX10_down 7 3 10 (.invokevirtual 301) := ⟨by decide +kernel, rfl⟩
theorem e_X10_down_10 : DJ cX10_down 10 37 13 (.ifCond .eq) := DJ.mk 27 (by decide +kernel) (by decide) rfl
theorem e_X10_down_37 : DC cX10_down 37 3 40 (.ldc2_w 299) := ⟨by decide +kernel, rfl⟩
theorem e_X10_down_40 : DC cX10_down 40 1 41 (.lreturn) := ⟨by decide +kernel, rfl⟩
theorem e_X10_named_0 : DC cX10_named 0 1 1 (.aload_n 0) := ⟨by decide +kernel, rfl⟩
theorem e_X10_named_1 : DC cX10_named 1 1 2 (.iconst 0) := ⟨by decide +kernel, rfl⟩
theorem e_X10_named_2 : DC cX10_named 2 3 5 (.putfield 91) := ⟨by decide +kernel, rfl⟩
theorem e_X10_named_5 : DC cX10_named 5 1 6 (.aload_n 0) := ⟨by decide +kernel, rfl⟩
theorem e_X10_named_6 : DC cX10_named 6 1 7 (.iconst 0) := ⟨by decide +kernel, rfl⟩
theorem e_X10_named_7 : DC cX10_named 7 1 8 (.aload_n 0) := ⟨by decide +kernel, rfl⟩
theorem e_X10_named_8 : DC cX10_named 8 3 11 (.invokevirtual 221) := ⟨by decide +kernel, rfl⟩
theorem e_X10_named_11 : DC cX10_named 11 1 12 (.iload_n 1) := ⟨by decide +kernel, rfl⟩
theorem e_X10_named_12 : DC cX10_named 12 3 15 (.invokevirtual 161) := ⟨by decide +kernel, rfl⟩
theorem cb_X10_namedAt : CB yX10_namedAt cX10_namedAt 5 (some .int) 3 := ⟨tb_in 1657 (by decide +kernel) (by decide +kernel), tb_in 10 (by decide +kernel) (by decide +kernel), by decide +kernel⟩
theorem ml_X10_161 : Cond.methodLink RX10 161 yX10_namedAt ∈ tb := tb_in 1654 (by decide +kernel) (by decide +kernel)
theorem im_X10_namedAt : Cond.instanceMethod yX10_namedAt ∈ tb := tb_in 1656 (by decide +kernel) (by decide +kernel)
theorem se_X10_namedAt : Cond.selects (yX10_namedAt).cls yX10_namedAt yX10_namedAt ∈ tb := tb_sel 26 (by decide +kernel) (by decide +kernel)
theorem e_X10_named_15 : DC cX10_named 15 1 16 (.ireturn) := ⟨by decide +kernel, rfl⟩
theorem e_X10_choose_0 : DC cX10_choose 0 1 1 (.aload_n 0) := ⟨by decide +kernel, rfl⟩
theorem e_X10_choose_1 : DC cX10_choose 1 1 2 (.iconst 0) := ⟨by decide +kernel, rfl⟩
theorem e_X10_choose_2 : DC cX10_choose 2 3 5 (.putfield 91) := ⟨by decide +kernel, rfl⟩
theorem e_X10_choose_5 : DC cX10_choose 5 1 6 (.aload_n 0) := ⟨by decide +kernel, rfl⟩
theorem e_X10_choose_6 : DC cX10_choose 6 1 7 (.iload_n 1) := ⟨by decide +kernel, rfl⟩
theorem e_X10_choose_7 : DC cX10_choose 7 3 10 (.invokevirtual 292) := ⟨by decide +kernel, rfl⟩
theorem e_X10_choose_10 : DJ cX10_choose 10 15 13 (.ifCond .ne) := DJ.mk 5 (by decide +kernel) (by decide) rfl
theorem e_X10_choose_13 : DC cX10_choose 13 1 14 (.iconst (-1)) := ⟨by decide +kernel, rfl⟩
theorem e_X10_choose_14 : DC cX10_choose 14 1 15 (.ireturn) := ⟨by decide +kernel, rfl⟩
theorem e_X10_partFor_0 : DC cX10_partFor 0 1 1 (.aload_n 0) := ⟨by decide +kernel, rfl⟩
theorem e_X10_partFor_1 : DC cX10_partFor 1 1 2 (.iconst 0) := ⟨by decide +kernel, rfl⟩
theorem e_X10_partFor_2 : DC cX10_partFor 2 3 5 (.putfield 91) := ⟨by decide +kernel, rfl⟩
theorem e_X10_partFor_5 : DC cX10_partFor 5 1 6 (.aload_n 0) := ⟨by decide +kernel, rfl⟩
theorem e_X10_partFor_6 : DC cX10_partFor 6 1 7 (.iload_n 1) := ⟨by decide +kernel, rfl⟩
theorem e_X10_partFor_7 : DC cX10_partFor 7 3 10 (.invokevirtual 292) := ⟨by decide +kernel, rfl⟩
theorem e_X10_partFor_10 : DJ cX10_partFor 10 15 13 (.ifCond .ne) := DJ.mk 5 (by decide +kernel) (by decide) rfl
theorem e_X10_partFor_13 : DC cX10_partFor 13 1 14 (.iconst (-1)) := ⟨by decide +kernel, rfl⟩
theorem e_X10_partFor_14 : DC cX10_partFor 14 1 15 (.ireturn) := ⟨by decide +kernel, rfl⟩
theorem e_X10_latest_0 : DC cX10_latest 0 1 1 (.aload_n 0) := ⟨by decide +kernel, rfl⟩
theorem e_X10_latest_1 : DC cX10_latest 1 1 2 (.iconst 0) := ⟨by decide +kernel, rfl⟩
theorem e_X10_latest_2 : DC cX10_latest 2 3 5 (.putfield 91) := ⟨by decide +kernel, rfl⟩
theorem e_X10_latest_5 : DC cX10_latest 5 1 6 (.aload_n 0) := ⟨by decide +kernel, rfl⟩
theorem e_X10_latest_6 : DC cX10_latest 6 1 7 (.iload_n 1) := ⟨by decide +kernel, rfl⟩
theorem e_X10_latest_7 : DC cX10_latest 7 3 10 (.invokevirtual 292) := ⟨by decide +kernel, rfl⟩
theorem e_X10_latest_10 : DJ cX10_latest 10 22 13 (.ifCond .eq) := DJ.mk 12 (by decide +kernel) (by decide) rfl
theorem e_X10_latest_22 : DC cX10_latest 22 1 23 (.iconst (-1)) := ⟨by decide +kernel, rfl⟩
theorem e_X10_latest_23 : DC cX10_latest 23 1 24 (.ireturn) := ⟨by decide +kernel, rfl⟩
theorem e_X10_half_0 : DC cX10_half 0 1 1 (.aload_n 0) := ⟨by decide +kernel, rfl⟩
theorem e_X10_half_1 : DC cX10_half 1 1 2 (.iconst 0) := ⟨by decide +kernel, rfl⟩
theorem e_X10_half_2 : DC cX10_half 2 3 5 (.putfield 91) := ⟨by decide +kernel, rfl⟩
theorem e_X10_half_5 : DC cX10_half 5 1 6 (.aload_n 0) := ⟨by decide +kernel, rfl⟩
theorem e_X10_half_6 : DC cX10_half 6 1 7 (.iload_n 1) := ⟨by decide +kernel, rfl⟩
theorem e_X10_half_7 : DC cX10_half 7 3 10 (.invokevirtual 292) := ⟨by decide +kernel, rfl⟩
theorem e_X10_half_10 : DJ cX10_half 10 30 13 (.ifCond .eq) := DJ.mk 20 (by decide +kernel) (by decide) rfl
theorem e_X10_half_30 : DC cX10_half 30 1 31 (.iconst (-1)) := ⟨by decide +kernel, rfl⟩
theorem e_X10_half_31 : DC cX10_half 31 1 32 (.ireturn) := ⟨by decide +kernel, rfl⟩
theorem e_X10_yields_0 : DC cX10_yields 0 1 1 (.aload_n 0) := ⟨by decide +kernel, rfl⟩
theorem e_X10_yields_1 : DC cX10_yields 1 1 2 (.iconst 0) := ⟨by decide +kernel, rfl⟩
theorem e_X10_yields_2 : DC cX10_yields 2 3 5 (.putfield 91) := ⟨by decide +kernel, rfl⟩
theorem e_X10_yields_5 : DC cX10_yields 5 1 6 (.aload_n 0) := ⟨by decide +kernel, rfl⟩
theorem e_X10_yields_6 : DC cX10_yields 6 1 7 (.iload_n 1) := ⟨by decide +kernel, rfl⟩
theorem e_X10_yields_7 : DC cX10_yields 7 1 8 (.iload_n 2) := ⟨by decide +kernel, rfl⟩
theorem e_X10_yields_8 : DC cX10_yields 8 3 11 (.invokevirtual 295) := ⟨by decide +kernel, rfl⟩
theorem e_X10_yields_11 : DJ cX10_yields 11 38 14 (.ifCond .eq) := DJ.mk 27 (by decide +kernel) (by decide) rfl
theorem e_X10_yields_38 : DC cX10_yields 38 1 39 (.iconst (-1)) := ⟨by decide +kernel, rfl⟩
theorem e_X10_yields_39 : DC cX10_yields 39 1 40 (.ireturn) := ⟨by decide +kernel, rfl⟩
theorem e_X10_level_0 : DC cX10_level 0 1 1 (.aload_n 0) := ⟨by decide +kernel, rfl⟩
theorem e_X10_level_1 : DC cX10_level 1 1 2 (.iconst 0) := ⟨by decide +kernel, rfl⟩
theorem e_X10_level_2 : DC cX10_level 2 3 5 (.putfield 91) := ⟨by decide +kernel, rfl⟩
theorem e_X10_level_5 : DC cX10_level 5 1 6 (.aload_n 0) := ⟨by decide +kernel, rfl⟩
theorem e_X10_level_6 : DC cX10_level 6 1 7 (.iload_n 1) := ⟨by decide +kernel, rfl⟩
theorem e_X10_level_7 : DC cX10_level 7 3 10 (.invokevirtual 292) := ⟨by decide +kernel, rfl⟩
theorem e_X10_level_10 : DJ cX10_level 10 27 13 (.ifCond .eq) := DJ.mk 17 (by decide +kernel) (by decide) rfl
theorem e_X10_level_27 : DC cX10_level 27 1 28 (.iconst (-1)) := ⟨by decide +kernel, rfl⟩
theorem e_X10_level_28 : DC cX10_level 28 1 29 (.ireturn) := ⟨by decide +kernel, rfl⟩
theorem e_X10_undo_0 : DC cX10_undo 0 1 1 (.aload_n 0) := ⟨by decide +kernel, rfl⟩
theorem e_X10_undo_1 : DC cX10_undo 1 1 2 (.iconst 0) := ⟨by decide +kernel, rfl⟩
theorem e_X10_undo_2 : DC cX10_undo 2 3 5 (.putfield 91) := ⟨by decide +kernel, rfl⟩
theorem e_X10_undo_5 : DC cX10_undo 5 1 6 (.aload_n 0) := ⟨by decide +kernel, rfl⟩
theorem e_X10_undo_6 : DC cX10_undo 6 3 9 (.getfield 214) := ⟨by decide +kernel, rfl⟩
theorem e_X10_undo_9 : DJ cX10_undo 9 14 12 (.ifCond .ne) := DJ.mk 5 (by decide +kernel) (by decide) rfl
theorem e_X10_undo_12 : DC cX10_undo 12 1 13 (.iconst (-1)) := ⟨by decide +kernel, rfl⟩
theorem e_X10_undo_13 : DC cX10_undo 13 1 14 (.ireturn) := ⟨by decide +kernel, rfl⟩
theorem e_X10_back_0 : DC cX10_back 0 1 1 (.aload_n 0) := ⟨by decide +kernel, rfl⟩
theorem e_X10_back_1 : DC cX10_back 1 1 2 (.iconst 0) := ⟨by decide +kernel, rfl⟩
theorem e_X10_back_2 : DC cX10_back 2 3 5 (.putfield 91) := ⟨by decide +kernel, rfl⟩
theorem e_X10_back_5 : DC cX10_back 5 1 6 (.aload_n 0) := ⟨by decide +kernel, rfl⟩
theorem e_X10_back_6 : DC cX10_back 6 3 9 (.getfield 217) := ⟨by decide +kernel, rfl⟩
theorem fl_X10_217 : FL RX10 217 8 33 := ⟨RX10, TX10, 37, rfl, by decide, uw_8, tb_in 1493 (by decide +kernel) (by decide +kernel), rfl⟩
theorem e_X10_back_9 : DJ cX10_back 9 14 12 (.ifCond .ne) := DJ.mk 5 (by decide +kernel) (by decide) rfl
theorem e_X10_back_12 : DC cX10_back 12 1 13 (.iconst (-1)) := ⟨by decide +kernel, rfl⟩
theorem e_X10_back_13 : DC cX10_back 13 1 14 (.ireturn) := ⟨by decide +kernel, rfl⟩
theorem e_X10_heaviest_0 : DC cX10_heaviest 0 1 1 (.aload_n 0) := ⟨by decide +kernel, rfl⟩
theorem e_X10_heaviest_1 : DC cX10_heaviest 1 1 2 (.iconst 0) := ⟨by decide +kernel, rfl⟩
theorem e_X10_heaviest_2 : DC cX10_heaviest 2 3 5 (.putfield 91) := ⟨by decide +kernel, rfl⟩
theorem e_X10_heaviest_5 : DC cX10_heaviest 5 2 7 (.bipush (-2)) := ⟨by decide +kernel, rfl⟩
theorem e_X10_heaviest_7 : DC cX10_heaviest 7 1 8 (.istore_n 1) := ⟨by decide +kernel, rfl⟩
theorem e_X10_heaviest_8 : DC cX10_heaviest 8 1 9 (.iconst 0) := ⟨by decide +kernel, rfl⟩
theorem e_X10_heaviest_9 : DC cX10_heaviest 9 1 10 (.istore_n 2) := ⟨by decide +kernel, rfl⟩
theorem e_X10_heaviest_10 : DC cX10_heaviest 10 1 11 (.iload_n 2) := ⟨by decide +kernel, rfl⟩
theorem e_X10_heaviest_11 : DC cX10_heaviest 11 1 12 (.aload_n 0) := ⟨by decide +kernel, rfl⟩
theorem e_X10_heaviest_12 : DC cX10_heaviest 12 3 15 (.invokevirtual 221) := ⟨by decide +kernel, rfl⟩
theorem e_X10_heaviest_15 : DJ cX10_heaviest 15 87 18 (.if_icmp .ge) := DJ.mk 72 (by decide +kernel) (by decide) rfl
theorem e_X10_heaviest_87 : DC cX10_heaviest 87 1 88 (.iload_n 1) := ⟨by decide +kernel, rfl⟩
theorem e_X10_heaviest_88 : DC cX10_heaviest 88 1 89 (.ireturn) := ⟨by decide +kernel, rfl⟩
theorem e_X10_keep_0 : DC cX10_keep 0 1 1 (.aload_n 0) := ⟨by decide +kernel, rfl⟩
theorem e_X10_keep_1 : DC cX10_keep 1 1 2 (.iconst 0) := ⟨by decide +kernel, rfl⟩
theorem e_X10_keep_2 : DC cX10_keep 2 3 5 (.putfield 91) := ⟨by decide +kernel, rfl⟩
theorem e_X10_keep_5 : DC cX10_keep 5 1 6 (.aload_n 0) := ⟨by decide +kernel, rfl⟩
theorem e_X10_keep_6 : DC cX10_keep 6 3 9 (.getfield 59) := ⟨by decide +kernel, rfl⟩
theorem e_X10_keep_9 : DC cX10_keep 9 1 10 (.iconst 0) := ⟨by decide +kernel, rfl⟩
theorem e_X10_keep_10 : DC cX10_keep 10 1 11 (.aload_n 0) := ⟨by decide +kernel, rfl⟩
theorem e_X10_keep_11 : DC cX10_keep 11 3 14 (.getfield 69) := ⟨by decide +kernel, rfl⟩
theorem fl_X10_69 : FL RX10 69 8 30 := ⟨RX10, TX10, 37, rfl, by decide, uw_8, tb_in 1490 (by decide +kernel) (by decide +kernel), rfl⟩
theorem e_X10_keep_14 : DC cX10_keep 14 1 15 (.iconst 0) := ⟨by decide +kernel, rfl⟩
theorem e_X10_keep_15 : DC cX10_keep 15 3 18 (.invokestatic 230) := ⟨by decide +kernel, rfl⟩
theorem e_X10_keep_18 : DC cX10_keep 18 1 19 (.aload_n 0) := ⟨by decide +kernel, rfl⟩
theorem e_X10_keep_19 : DC cX10_keep 19 1 20 (.iconst 1) := ⟨by decide +kernel, rfl⟩
theorem e_X10_keep_20 : DC cX10_keep 20 3 23 (.putfield 217) := ⟨by decide +kernel, rfl⟩
theorem fp_X10_217 : FP RX10 217 8 33 false .boolean := ⟨RX10, TX10, 37, tyX10, rfl, by decide, uw_8, tb_in 1493 (by decide +kernel) (by decide +kernel), rfl, rfl, by decide +kernel, tyX10_ok, nmX10⟩
theorem e_X10_keep_23 : DC cX10_keep 23 1 24 (.aload_n 0) := ⟨by decide +kernel, rfl⟩
theorem e_X10_keep_24 : DC cX10_keep 24 3 27 (.getfield 59) := ⟨by decide +kernel, rfl⟩
theorem e_X10_keep_27 : DC cX10_keep 27 3 30 (.sipush 744) := ⟨by decide +kernel, rfl⟩
theorem e_X10_keep_30 : DC cX10_keep 30 1 31 (.laload) := ⟨by decide +kernel, rfl⟩
theorem e_X10_keep_31 : DC cX10_keep 31 1 32 (.l2i) := ⟨by decide +kernel, rfl⟩
theorem e_X10_keep_32 : DC cX10_keep 32 1 33 (.ireturn) := ⟨by decide +kernel, rfl⟩
theorem e_X10_lease_0 : DC cX10_lease 0 1 1 (.aload_n 0) := ⟨by decide +kernel, rfl⟩
theorem e_X10_lease_1 : DC cX10_lease 1 1 2 (.iconst 0) := ⟨by decide +kernel, rfl⟩
theorem e_X10_lease_2 : DC cX10_lease 2 3 5 (.putfield 91) := ⟨by decide +kernel, rfl⟩
theorem e_X10_lease_5 : DC cX10_lease 5 1 6 (.aload_n 0) := ⟨by decide +kernel, rfl⟩
theorem e_X10_lease_6 : DC cX10_lease 6 1 7 (.iload_n 1) := ⟨by decide +kernel, rfl⟩
theorem e_X10_lease_7 : DC cX10_lease 7 3 10 (.invokevirtual 292) := ⟨by decide +kernel, rfl⟩
theorem e_X10_lease_10 : DJ cX10_lease 10 20 13 (.ifCond .ne) := DJ.mk 10 (by decide +kernel) (by decide) rfl
theorem e_X10_lease_13 : DC cX10_lease 13 1 14 (.aload_n 0) := ⟨by decide +kernel, rfl⟩
theorem e_X10_lease_14 : DC cX10_lease 14 1 15 (.iconst 1) := ⟨by decide +kernel, rfl⟩
theorem e_X10_lease_15 : DC cX10_lease 15 3 18 (.putfield 91) := ⟨by decide +kernel, rfl⟩
theorem e_X10_lease_18 : DC cX10_lease 18 1 19 (.iconst 0) := ⟨by decide +kernel, rfl⟩
theorem e_X10_lease_19 : DC cX10_lease 19 1 20 (.ireturn) := ⟨by decide +kernel, rfl⟩
theorem e_X10_thrown_0 : DC cX10_thrown 0 1 1 (.aload_n 0) := ⟨by decide +kernel, rfl⟩
theorem e_X10_thrown_1 : DC cX10_thrown 1 3 4 (.getfield 91) := ⟨by decide +kernel, rfl⟩
theorem fl_X10_91 : FL RX10 91 8 0 := ⟨RX10, TX10, 37, rfl, by decide, uw_8, tb_in 1460 (by decide +kernel) (by decide +kernel), rfl⟩
theorem e_X10_thrown_4 : DC cX10_thrown 4 1 5 (.ireturn) := ⟨by decide +kernel, rfl⟩
theorem e_X10_fault_0 : DC cX10_fault 0 1 1 (.aload_n 0) := ⟨by decide +kernel, rfl⟩
theorem e_X10_fault_1 : DC cX10_fault 1 1 2 (.iconst 0) := ⟨by decide +kernel, rfl⟩
theorem e_X10_fault_2 : DC cX10_fault 2 3 5 (.putfield 91) := ⟨by decide +kernel, rfl⟩
theorem e_X10_fault_5 : DC cX10_fault 5 1 6 (.iload_n 1) := ⟨by decide +kernel, rfl⟩
theorem e_X10_fault_6 : DJ cX10_fault 6 16 9 (.ifCond .ne) := DJ.mk 10 (by decide +kernel) (by decide) rfl
theorem e_X10_fault_16 : DC cX10_fault 16 1 17 (.iload_n 1) := ⟨by decide +kernel, rfl⟩
theorem e_X10_fault_17 : DC cX10_fault 17 1 18 (.iconst 1) := ⟨by decide +kernel, rfl⟩
theorem e_X10_fault_18 : DJ cX10_fault 18 28 21 (.if_icmp .ne) := DJ.mk 10 (by decide +kernel) (by decide) rfl
theorem e_X10_fault_28 : DC cX10_fault 28 1 29 (.iconst (-1)) := ⟨by decide +kernel, rfl⟩
theorem e_X10_fault_29 : DC cX10_fault 29 1 30 (.ireturn) := ⟨by decide +kernel, rfl⟩
theorem e_X10_fault_21 : DC cX10_fault 21 1 22 (.aload_n 0) := ⟨by decide +kernel, rfl⟩
theorem e_X10_fault_22 : DC cX10_fault 22 3 25 (.getfield 55) := ⟨by decide +kernel, rfl⟩
theorem fl_X10_55 : FL RX10 55 8 26 := ⟨RX10, TX10, 37, rfl, by decide, uw_8, tb_in 1486 (by decide +kernel) (by decide +kernel), rfl⟩
theorem e_X10_fault_25 : DJ cX10_fault 25 29 28 .goto := DJ.mk 4 (by decide +kernel) (by decide) rfl
theorem e_X10_fault_9 : DC cX10_fault 9 1 10 (.aload_n 0) := ⟨by decide +kernel, rfl⟩
theorem e_X10_fault_10 : DC cX10_fault 10 3 13 (.getfield 211) := ⟨by decide +kernel, rfl⟩
theorem fl_X10_211 : FL RX10 211 8 25 := ⟨RX10, TX10, 37, rfl, by decide, uw_8, tb_in 1485 (by decide +kernel) (by decide +kernel), rfl⟩
theorem e_X10_fault_13 : DJ cX10_fault 13 29 16 .goto := DJ.mk 16 (by decide +kernel) (by decide) rfl
theorem e_X10_index_0 : DC cX10_index 0 1 1 (.aload_n 0) := ⟨by decide +kernel, rfl⟩
theorem e_X10_index_1 : DC cX10_index 1 1 2 (.iconst 0) := ⟨by decide +kernel, rfl⟩
theorem e_X10_index_2 : DC cX10_index 2 3 5 (.putfield 91) := ⟨by decide +kernel, rfl⟩
theorem e_X10_index_5 : DC cX10_index 5 1 6 (.iload_n 1) := ⟨by decide +kernel, rfl⟩
theorem e_X10_index_6 : DJ cX10_index 6 29 9 (.ifCond .lt) := DJ.mk 23 (by decide +kernel) (by decide) rfl
theorem e_X10_index_29 : DC cX10_index 29 1 30 (.iconst (-1)) := ⟨by decide +kernel, rfl⟩
theorem e_X10_index_30 : DC cX10_index 30 1 31 (.ireturn) := ⟨by decide +kernel, rfl⟩
theorem e_X10_index_9 : DC cX10_index 9 1 10 (.iload_n 1) := ⟨by decide +kernel, rfl⟩
theorem e_X10_index_10 : DC cX10_index 10 2 12 (.bipush 99) := ⟨by decide +kernel, rfl⟩
theorem e_X10_index_12 : DJ cX10_index 12 29 15 (.if_icmp .gt) := DJ.mk 17 (by decide +kernel) (by decide) rfl
theorem e_X10_index_15 : DC cX10_index 15 1 16 (.aload_n 0) := ⟨by decide +kernel, rfl⟩
theorem e_X10_index_16 : DC cX10_index 16 3 19 (.getfield 59) := ⟨by decide +kernel, rfl⟩
theorem e_X10_index_19 : DC cX10_index 19 3 22 (.sipush 644) := ⟨by decide +kernel, rfl⟩
theorem e_X10_index_22 : DC cX10_index 22 1 23 (.iload_n 1) := ⟨by decide +kernel, rfl⟩
theorem e_X10_index_23 : DC cX10_index 23 1 24 (.iadd) := ⟨by decide +kernel, rfl⟩
theorem e_X10_index_24 : DC cX10_index 24 1 25 (.laload) := ⟨by decide +kernel, rfl⟩
theorem e_X10_index_25 : DC cX10_index 25 1 26 (.l2i) := ⟨by decide +kernel, rfl⟩
theorem e_X10_index_26 : DJ cX10_index 26 30 29 .goto := DJ.mk 4 (by decide +kernel) (by decide) rfl
theorem e_X10_account_0 : DC cX10_account 0 1 1 (.aload_n 0) := ⟨by decide +kernel, rfl⟩
theorem e_X10_account_1 : DC cX10_account 1 1 2 (.iconst 0) := ⟨by decide +kernel, rfl⟩
theorem e_X10_account_2 : DC cX10_account 2 3 5 (.putfield 91) := ⟨by decide +kernel, rfl⟩
theorem e_X10_account_5 : DC cX10_account 5 1 6 (.iload_n 1) := ⟨by decide +kernel, rfl⟩
theorem e_X10_account_6 : DJ cX10_account 6 28 9 (.ifCond .lt) := DJ.mk 22 (by decide +kernel) (by decide) rfl
theorem e_X10_account_28 : DC cX10_account 28 3 31 (.ldc2_w 299) := ⟨by decide +kernel, rfl⟩
theorem e_X10_account_31 : DC cX10_account 31 1 32 (.lreturn) := ⟨by decide +kernel, rfl⟩
theorem e_X10_account_9 : DC cX10_account 9 1 10 (.iload_n 1) := ⟨by decide +kernel, rfl⟩
theorem e_X10_account_10 : DC cX10_account 10 2 12 (.bipush 6) := ⟨by decide +kernel, rfl⟩
theorem e_X10_account_12 : DJ cX10_account 12 28 15 (.if_icmp .ge) := DJ.mk 16 (by decide +kernel) (by decide) rfl
theorem e_X10_account_15 : DC cX10_account 15 1 16 (.aload_n 0) := ⟨by decide +kernel, rfl⟩
theorem e_X10_account_16 : DC cX10_account 16 3 19 (.getfield 59) := ⟨by decide +kernel, rfl⟩
theorem e_X10_account_19 : DC cX10_account 19 3 22 (.sipush 745) := ⟨by decide +kernel, rfl⟩
theorem e_X10_account_22 : DC cX10_account 22 1 23 (.iload_n 1) := ⟨by decide +kernel, rfl⟩
theorem e_X10_account_23 : DC cX10_account 23 1 24 (.iadd) := ⟨by decide +kernel, rfl⟩
theorem e_X10_account_24 : DC cX10_account 24 1 25 (.laload) := ⟨by decide +kernel, rfl⟩
theorem e_X10_account_25 : DJ cX10_account 25 31 28 .goto := DJ.mk 6 (by decide +kernel) (by decide) rfl
theorem e_X10_entry__0 : DC cX10_entry_ 0 1 1 (.aload_n 0) := ⟨by decide +kernel, rfl⟩
theorem e_X10_entry__1 : DC cX10_entry_ 1 1 2 (.iconst 0) := ⟨by decide +kernel, rfl⟩
theorem e_X10_entry__2 : DC cX10_entry_ 2 3 5 (.putfield 91) := ⟨by decide +kernel, rfl⟩
theorem e_X10_entry__5 : DC cX10_entry_ 5 1 6 (.iload_n 1) := ⟨by decide +kernel, rfl⟩
theorem e_X10_entry__6 : DJ cX10_entry_ 6 23 9 (.ifCond .lt) := DJ.mk 17 (by decide +kernel) (by decide) rfl
theorem e_X10_entry__23 : DC cX10_entry_ 23 3 26 (.ldc2_w 299) := ⟨by decide +kernel, rfl⟩
theorem e_X10_entry__26 : DC cX10_entry_ 26 1 27 (.lreturn) := ⟨by decide +kernel, rfl⟩
theorem e_X10_entry__9 : DC cX10_entry_ 9 1 10 (.iload_n 1) := ⟨by decide +kernel, rfl⟩
theorem e_X10_entry__10 : DC cX10_entry_ 10 1 11 (.i2l) := ⟨by decide +kernel, rfl⟩
theorem e_X10_entry__11 : DC cX10_entry_ 11 1 12 (.aload_n 0) := ⟨by decide +kernel, rfl⟩
theorem e_X10_entry__12 : DC cX10_entry_ 12 3 15 (.getfield 59) := ⟨by decide +kernel, rfl⟩
theorem e_X10_entry__15 : DC cX10_entry_ 15 3 18 (.sipush 751) := ⟨by decide +kernel, rfl⟩
theorem e_X10_entry__18 : DC cX10_entry_ 18 1 19 (.laload) := ⟨by decide +kernel, rfl⟩
theorem e_X10_entry__19 : DC cX10_entry_ 19 1 20 (.lcmp) := ⟨by decide +kernel, rfl⟩
theorem e_X10_entry__20 : DJ cX10_entry_ 20 27 23 (.ifCond .lt) := DJ.mk 7 (by decide +kernel) (by decide) rfl
theorem e_X10_sum_0 : DC cX10_sum 0 1 1 (.aload_n 0) := ⟨by decide +kernel, rfl⟩
theorem e_X10_sum_1 : DC cX10_sum 1 1 2 (.iconst 0) := ⟨by decide +kernel, rfl⟩
theorem e_X10_sum_2 : DC cX10_sum 2 3 5 (.putfield 91) := ⟨by decide +kernel, rfl⟩
theorem e_X10_sum_5 : DC cX10_sum 5 1 6 (.iload_n 1) := ⟨by decide +kernel, rfl⟩
theorem e_X10_sum_6 : DJ cX10_sum 6 23 9 (.ifCond .lt) := DJ.mk 17 (by decide +kernel) (by decide) rfl
theorem e_X10_sum_23 : DC cX10_sum 23 3 26 (.ldc2_w 299) := ⟨by decide +kernel, rfl⟩
theorem e_X10_sum_26 : DC cX10_sum 26 1 27 (.lreturn) := ⟨by decide +kernel, rfl⟩
theorem e_X10_sum_9 : DC cX10_sum 9 1 10 (.iload_n 1) := ⟨by decide +kernel, rfl⟩
theorem e_X10_sum_10 : DC cX10_sum 10 1 11 (.iconst 5) := ⟨by decide +kernel, rfl⟩
theorem e_X10_sum_11 : DJ cX10_sum 11 23 14 (.if_icmp .gt) := DJ.mk 12 (by decide +kernel) (by decide) rfl
theorem e_X10_sum_14 : DC cX10_sum 14 1 15 (.iload_n 2) := ⟨by decide +kernel, rfl⟩
theorem e_X10_sum_15 : DJ cX10_sum 15 23 18 (.ifCond .lt) := DJ.mk 8 (by decide +kernel) (by decide) rfl
theorem e_X10_sum_18 : DC cX10_sum 18 1 19 (.iload_n 2) := ⟨by decide +kernel, rfl⟩
theorem e_X10_sum_19 : DC cX10_sum 19 1 20 (.iconst 5) := ⟨by decide +kernel, rfl⟩
theorem e_X10_sum_20 : DJ cX10_sum 20 27 23 (.if_icmp .le) := DJ.mk 7 (by decide +kernel) (by decide) rfl
theorem e_X10_sum_27 : DC cX10_sum 27 1 28 (.lconst 0) := ⟨by decide +kernel, rfl⟩
theorem e_X10_sum_28 : DC cX10_sum 28 1 29 (.lstore_n 3) := ⟨by decide +kernel, rfl⟩
theorem e_X10_sum_29 : DC cX10_sum 29 1 30 (.iconst 0) := ⟨by decide +kernel, rfl⟩
theorem e_X10_sum_30 : DC cX10_sum 30 2 32 (.istore 5) := ⟨by decide +kernel, rfl⟩
theorem e_X10_sum_32 : DC cX10_sum 32 2 34 (.iload 5) := ⟨by decide +kernel, rfl⟩
theorem e_X10_sum_34 : DC cX10_sum 34 1 35 (.i2l) := ⟨by decide +kernel, rfl⟩
theorem e_X10_sum_35 : DC cX10_sum 35 1 36 (.aload_n 0) := ⟨by decide +kernel, rfl⟩
theorem e_X10_sum_36 : DC cX10_sum 36 3 39 (.getfield 59) := ⟨by decide +kernel, rfl⟩
theorem e_X10_sum_39 : DC cX10_sum 39 3 42 (.sipush 751) := ⟨by decide +kernel, rfl⟩
theorem e_X10_sum_42 : DC cX10_sum 42 1 43 (.laload) := ⟨by decide +kernel, rfl⟩
theorem e_X10_sum_43 : DC cX10_sum 43 1 44 (.lcmp) := ⟨by decide +kernel, rfl⟩
theorem e_X10_sum_44 : DJ cX10_sum 44 94 47 (.ifCond .ge) := DJ.mk 50 (by decide +kernel) (by decide) rfl
theorem e_X10_sum_94 : DC cX10_sum 94 1 95 (.lload_n 3) := ⟨by decide +kernel, rfl⟩
theorem e_X10_sum_95 : DC cX10_sum 95 1 96 (.lreturn) := ⟨by decide +kernel, rfl⟩
theorem e_X10_count_0 : DC cX10_count 0 1 1 (.aload_n 0) := ⟨by decide +kernel, rfl⟩
theorem e_X10_count_1 : DC cX10_count 1 1 2 (.iconst 0) := ⟨by decide +kernel, rfl⟩
theorem e_X10_count_2 : DC cX10_count 2 3 5 (.putfield 91) := ⟨by decide +kernel, rfl⟩
theorem e_X10_count_5 : DC cX10_count 5 1 6 (.iload_n 1) := ⟨by decide +kernel, rfl⟩
theorem e_X10_count_6 : decode cX10_count 6 = .ok (.tableswitch 103 0 7 #[46, 51, 58, 68, 78, 88, 93, 98], 46) := by decide +kernel
theorem e_X10_count_109 : DC cX10_count 109 1 110 (.iconst (-1)) := ⟨by decide +kernel, rfl⟩
theorem e_X10_count_110 : DC cX10_count 110 1 111 (.ireturn) := ⟨by decide +kernel, rfl⟩
theorem e_X10_count_52 : DC cX10_count 52 1 53 (.aload_n 0) := ⟨by decide +kernel, rfl⟩
theorem e_X10_count_53 : DC cX10_count 53 3 56 (.invokevirtual 221) := ⟨by decide +kernel, rfl⟩
theorem e_X10_count_56 : DC cX10_count 56 1 57 (.ireturn) := ⟨by decide +kernel, rfl⟩
theorem e_X10_count_57 : DC cX10_count 57 1 58 (.aload_n 0) := ⟨by decide +kernel, rfl⟩
theorem e_X10_count_58 : DC cX10_count 58 3 61 (.getfield 13) := ⟨by decide +kernel, rfl⟩
theorem e_X10_count_61 : DC cX10_count 61 1 62 (.iconst 3) := ⟨by decide +kernel, rfl⟩
theorem e_X10_count_62 : DC cX10_count 62 1 63 (.iaload) := ⟨by decide +kernel, rfl⟩
theorem e_X10_count_63 : DC cX10_count 63 1 64 (.ireturn) := ⟨by decide +kernel, rfl⟩
theorem e_X10_count_64 : DC cX10_count 64 1 65 (.aload_n 0) := ⟨by decide +kernel, rfl⟩
theorem e_X10_count_65 : DC cX10_count 65 3 68 (.getfield 59) := ⟨by decide +kernel, rfl⟩
theorem e_X10_count_68 : DC cX10_count 68 3 71 (.sipush 744) := ⟨by decide +kernel, rfl⟩
theorem e_X10_count_71 : DC cX10_count 71 1 72 (.laload) := ⟨by decide +kernel, rfl⟩
theorem e_X10_count_72 : DC cX10_count 72 1 73 (.l2i) := ⟨by decide +kernel, rfl⟩
theorem e_X10_count_73 : DC cX10_count 73 1 74 (.ireturn) := ⟨by decide +kernel, rfl⟩
theorem e_X10_count_74 : DC cX10_count 74 1 75 (.aload_n 0) := ⟨by decide +kernel, rfl⟩
theorem e_X10_count_75 : DC cX10_count 75 3 78 (.getfield 59) := ⟨by decide +kernel, rfl⟩
theorem e_X10_count_78 : DC cX10_count 78 3 81 (.sipush 751) := ⟨by decide +kernel, rfl⟩
theorem e_X10_count_81 : DC cX10_count 81 1 82 (.laload) := ⟨by decide +kernel, rfl⟩
theorem e_X10_count_82 : DC cX10_count 82 1 83 (.l2i) := ⟨by decide +kernel, rfl⟩
theorem e_X10_count_83 : DC cX10_count 83 1 84 (.ireturn) := ⟨by decide +kernel, rfl⟩
theorem e_X10_count_84 : DC cX10_count 84 1 85 (.aload_n 0) := ⟨by decide +kernel, rfl⟩
theorem e_X10_count_85 : DC cX10_count 85 3 88 (.getfield 59) := ⟨by decide +kernel, rfl⟩
theorem e_X10_count_88 : DC cX10_count 88 3 91 (.sipush 752) := ⟨by decide +kernel, rfl⟩
theorem e_X10_count_91 : DC cX10_count 91 1 92 (.laload) := ⟨by decide +kernel, rfl⟩
theorem e_X10_count_92 : DC cX10_count 92 1 93 (.l2i) := ⟨by decide +kernel, rfl⟩
theorem e_X10_count_93 : DC cX10_count 93 1 94 (.ireturn) := ⟨by decide +kernel, rfl⟩
theorem e_X10_count_94 : DC cX10_count 94 1 95 (.aload_n 0) := ⟨by decide +kernel, rfl⟩
theorem e_X10_count_95 : DC cX10_count 95 3 98 (.invokevirtual 373) := ⟨by decide +kernel, rfl⟩
theorem cb_X10_running : CB yX10_running cX10_running 3 (some .int) 0 := ⟨tb_in 1987 (by decide +kernel) (by decide +kernel), tb_in 10 (by decide +kernel) (by decide +kernel), by decide +kernel⟩
theorem ml_X10_373 : Cond.methodLink RX10 373 yX10_running ∈ tb := tb_in 1984 (by decide +kernel) (by decide +kernel)
theorem im_X10_running : Cond.instanceMethod yX10_running ∈ tb := tb_in 1986 (by decide +kernel) (by decide +kernel)
theorem se_X10_running : Cond.selects (yX10_running).cls yX10_running yX10_running ∈ tb := tb_sel 62 (by decide +kernel) (by decide +kernel)
theorem e_X10_count_98 : DC cX10_count 98 1 99 (.ireturn) := ⟨by decide +kernel, rfl⟩
theorem e_X10_count_99 : DC cX10_count 99 1 100 (.aload_n 0) := ⟨by decide +kernel, rfl⟩
theorem e_X10_count_100 : DC cX10_count 100 3 103 (.getfield 214) := ⟨by decide +kernel, rfl⟩
theorem e_X10_count_103 : DC cX10_count 103 1 104 (.ireturn) := ⟨by decide +kernel, rfl⟩
theorem e_X10_count_104 : DC cX10_count 104 1 105 (.aload_n 0) := ⟨by decide +kernel, rfl⟩
theorem e_X10_count_105 : DC cX10_count 105 3 108 (.getfield 94) := ⟨by decide +kernel, rfl⟩
theorem fl_X10_94 : FL RX10 94 8 2 := ⟨RX10, TX10, 37, rfl, by decide, uw_8, tb_in 1462 (by decide +kernel) (by decide +kernel), rfl⟩
theorem e_X10_count_108 : DC cX10_count 108 1 109 (.ireturn) := ⟨by decide +kernel, rfl⟩
theorem sZ744 : sZ 744 = lN 0 := by simp only [sZ, fillJ]; rw [if_neg (by omega)]; rfl
theorem sZ_hi {j : Nat} (h : 744 ≤ j) : sZ j = 0 := by simp only [sZ, fillJ]; rw [if_neg (by omega)]
theorem sZ_ix {j : Nat} (h : j < 100) : sZ (644 + j) = 1000 := by simp only [sZ, fillJ]; rw [if_pos (by omega)]
theorem rng1 {x M : Int32} {n : Nat} (hM : M.toInt = n) (h1 : ¬ x < 1) (h5 : x ≤ M) : ∃ j : Nat, 1 ≤ j ∧ j ≤ n ∧ x = nI j := by
  obtain ⟨j, hj, rfl⟩ := nI_of2 (x := x) (M := M) (n := n) hM (fun h => h1 (Int32.lt_trans h (by decide))) h5
  refine ⟨j, ?_, hj, rfl⟩
  rcases Nat.lt_or_ge j 1 with h | h
  · have : j = 0 := by omega
    subst this
    exact absurd (by decide) h1
  · exact h
def NOA : Int64 := -9223372036854775808
theorem i2l_nn {x : Int32} (h : 0 ≤ x) : 0 ≤ x.toInt64 := by
  rw [Int64.le_iff_toInt_le]
  have h1 := Int32.le_iff_toInt_le.mp h
  rw [Int32.toInt_toInt64]
  exact h1
set_option maxRecDepth 20000 in
theorem n_amount (l : Launch) (V : VX) (N : Nat) (σ : Mem) (m : Nat) (x y : Int32) (hZ : MZ V σ m) : Ct l V yX10_amount cX10_amount 3 (some .long) 3 0 0 N σ [.ref m, .int x, .int y] (fun r _ => r = some (.long (-1))) := by
  refine Ct.of (by decide) (Nat.le_of_ble_eq_true rfl) [(0, .ref m), (1, .int x), (2, .int y)] rfl (fun X hX F hQ => ?_)
  obtain ⟨z0, z1, z2, z3, z4, z5, z6, z7, z8, z9, z10, z11, z12, z13, z14, z15, z16, z17, z18, z19, z20, z21, z22⟩ := hZ
  refine m_aload_n F rfl e_X10_amount_0 ?_
  refine m_iconst F (v := 0) (by decide) e_X10_amount_1 ?_
  refine m_put F e_X10_amount_2 fp_X10_91 z0 rfl rfl (Nat.le_of_ble_eq_true rfl) (fs' := [.int 0, .ref (m + 1), .int 0, .ref (m + 2), .ref (m + 3), .ref (m + 4), .ref (m + 5), .ref (m + 6), .ref (m + 7), .ref (m + 8), .ref (m + 9), .ref (m + 10), .ref (m + 11), .ref (m + 12), .ref (m + 13), .ref (m + 14), .ref (m + 15), .int 0, .int 0, .int 0, .int 0, .int 0, .int 0, .int 0, .int 0, .int 0, .int (-1), .ref (m + 16), .ref (m + 17), .ref (m + 18), .ref (m + 19), .ref (m + 20), .int 0, .int 0, .ref (m + 21), .ref (m + 22), .int 0]) rfl (up_self z0).symm ?_
  refine m_aload_n F rfl e_X10_amount_5 ?_
  refine m_iload_n F rfl e_X10_amount_6 ?_
  refine m_callV F e_X10_amount_7 (k_isLease0 (x_l X) V _ _ m 0 0 0 0 0 0 0 0 0 0 0 (-1) 0 0 0 x z0 z2 ) cb_X10_isLease ml_X10_292 im_X10_isLease se_X10_isLease z0 rfl rfl (rest := []) rfl (Nat.le_of_ble_eq_true rfl) ⟨Nat.le_of_ble_eq_true rfl, Nat.le_of_ble_eq_true rfl⟩ ⟨Nat.le_of_ble_eq_true rfl, Nat.le_of_ble_eq_true rfl⟩ (k' := 0) (z' := 0) (N' := N) rfl rfl rfl (fun r τ hp => ?_)
  obtain ⟨rfl, rfl⟩ := hp
  refine m_if_eq F e_X10_amount_10 (fun _ => ?_) (fun q => absurd (by decide) q)
  refine m_ldc2 F kc_X10_245 e_X10_amount_40 ?_
  exact m_lret F hQ e_X10_amount_43 (rfl)
set_option maxRecDepth 20000 in
theorem n_due (l : Launch) (V : VX) (N : Nat) (σ : Mem) (m : Nat) (x y : Int32) (hZ : MZ V σ m) : Ct l V yX10_due cX10_due 3 (some .long) 3 0 0 N σ [.ref m, .int x, .int y] (fun r _ => r = some (.long (-1))) := by
  refine Ct.of (by decide) (Nat.le_of_ble_eq_true rfl) [(0, .ref m), (1, .int x), (2, .int y)] rfl (fun X hX F hQ => ?_)
  obtain ⟨z0, z1, z2, z3, z4, z5, z6, z7, z8, z9, z10, z11, z12, z13, z14, z15, z16, z17, z18, z19, z20, z21, z22⟩ := hZ
  refine m_aload_n F rfl e_X10_due_0 ?_
  refine m_iconst F (v := 0) (by decide) e_X10_due_1 ?_
  refine m_put F e_X10_due_2 fp_X10_91 z0 rfl rfl (Nat.le_of_ble_eq_true rfl) (fs' := [.int 0, .ref (m + 1), .int 0, .ref (m + 2), .ref (m + 3), .ref (m + 4), .ref (m + 5), .ref (m + 6), .ref (m + 7), .ref (m + 8), .ref (m + 9), .ref (m + 10), .ref (m + 11), .ref (m + 12), .ref (m + 13), .ref (m + 14), .ref (m + 15), .int 0, .int 0, .int 0, .int 0, .int 0, .int 0, .int 0, .int 0, .int 0, .int (-1), .ref (m + 16), .ref (m + 17), .ref (m + 18), .ref (m + 19), .ref (m + 20), .int 0, .int 0, .ref (m + 21), .ref (m + 22), .int 0]) rfl (up_self z0).symm ?_
  refine m_aload_n F rfl e_X10_due_5 ?_
  refine m_iload_n F rfl e_X10_due_6 ?_
  refine m_iload_n F rfl e_X10_due_7 ?_
  refine m_callV F e_X10_due_8 (k_isOwn0 (x_l X) V _ _ m 0 0 0 0 0 0 0 0 0 0 0 (-1) 0 0 0 x y z0 z2 ) cb_X10_isOwn ml_X10_295 im_X10_isOwn se_X10_isOwn z0 rfl rfl (rest := []) rfl (Nat.le_of_ble_eq_true rfl) ⟨Nat.le_of_ble_eq_true rfl, Nat.le_of_ble_eq_true rfl⟩ ⟨Nat.le_of_ble_eq_true rfl, Nat.le_of_ble_eq_true rfl⟩ (k' := 0) (z' := 0) (N' := N) rfl rfl rfl (fun r τ hp => ?_)
  obtain ⟨rfl, rfl⟩ := hp
  refine m_if_eq F e_X10_due_11 (fun _ => ?_) (fun q => absurd (by decide) q)
  refine m_ldc2 F kc_X10_245 e_X10_due_34 ?_
  exact m_lret F hQ e_X10_due_37 (rfl)
set_option maxRecDepth 20000 in
theorem n_worth (l : Launch) (V : VX) (N : Nat) (σ : Mem) (m : Nat) (x y z : Int32) (hZ : MZ V σ m) : Ct l V yX10_worth cX10_worth 4 (some .long) 3 0 0 N σ [.ref m, .int x, .int y, .int z] (fun r _ => r = some (.long (-1))) := by
  refine Ct.of (by decide) (Nat.le_of_ble_eq_true rfl) [(0, .ref m), (1, .int x), (2, .int y), (3, .int z)] rfl (fun X hX F hQ => ?_)
  obtain ⟨z0, z1, z2, z3, z4, z5, z6, z7, z8, z9, z10, z11, z12, z13, z14, z15, z16, z17, z18, z19, z20, z21, z22⟩ := hZ
  refine m_aload_n F rfl e_X10_worth_0 ?_
  refine m_iconst F (v := 0) (by decide) e_X10_worth_1 ?_
  refine m_put F e_X10_worth_2 fp_X10_91 z0 rfl rfl (Nat.le_of_ble_eq_true rfl) (fs' := [.int 0, .ref (m + 1), .int 0, .ref (m + 2), .ref (m + 3), .ref (m + 4), .ref (m + 5), .ref (m + 6), .ref (m + 7), .ref (m + 8), .ref (m + 9), .ref (m + 10), .ref (m + 11), .ref (m + 12), .ref (m + 13), .ref (m + 14), .ref (m + 15), .int 0, .int 0, .int 0, .int 0, .int 0, .int 0, .int 0, .int 0, .int 0, .int (-1), .ref (m + 16), .ref (m + 17), .ref (m + 18), .ref (m + 19), .ref (m + 20), .int 0, .int 0, .ref (m + 21), .ref (m + 22), .int 0]) rfl (up_self z0).symm ?_
  refine m_aload_n F rfl e_X10_worth_5 ?_
  refine m_iload_n F rfl e_X10_worth_6 ?_
  refine m_iload_n F rfl e_X10_worth_7 ?_
  refine m_callV F e_X10_worth_8 (k_isOwn0 (x_l X) V _ _ m 0 0 0 0 0 0 0 0 0 0 0 (-1) 0 0 0 x y z0 z2 ) cb_X10_isOwn ml_X10_295 im_X10_isOwn se_X10_isOwn z0 rfl rfl (rest := []) rfl (Nat.le_of_ble_eq_true rfl) ⟨Nat.le_of_ble_eq_true rfl, Nat.le_of_ble_eq_true rfl⟩ ⟨Nat.le_of_ble_eq_true rfl, Nat.le_of_ble_eq_true rfl⟩ (k' := 0) (z' := 0) (N' := N) rfl rfl rfl (fun r τ hp => ?_)
  obtain ⟨rfl, rfl⟩ := hp
  refine m_if_eq F e_X10_worth_11 (fun _ => ?_) (fun q => absurd (by decide) q)
  refine m_ldc2 F kc_X10_245 e_X10_worth_41 ?_
  exact m_lret F hQ e_X10_worth_44 (rfl)
set_option maxRecDepth 20000 in
theorem n_plan (l : Launch) (V : VX) (N : Nat) (σ : Mem) (m : Nat) (x y z : Int32) (hZ : MZ V σ m) : Ct l V yX10_plan cX10_plan 10 (some .long) 3 0 0 N σ [.ref m, .int x, .int y, .int z] (fun r _ => r = some (.long (-1))) := by
  refine Ct.of (by decide) (Nat.le_of_ble_eq_true rfl) [(0, .ref m), (1, .int x), (2, .int y), (3, .int z)] rfl (fun X hX F hQ => ?_)
  obtain ⟨z0, z1, z2, z3, z4, z5, z6, z7, z8, z9, z10, z11, z12, z13, z14, z15, z16, z17, z18, z19, z20, z21, z22⟩ := hZ
  refine m_aload_n F rfl e_X10_plan_0 ?_
  refine m_iconst F (v := 0) (by decide) e_X10_plan_1 ?_
  refine m_put F e_X10_plan_2 fp_X10_91 z0 rfl rfl (Nat.le_of_ble_eq_true rfl) (fs' := [.int 0, .ref (m + 1), .int 0, .ref (m + 2), .ref (m + 3), .ref (m + 4), .ref (m + 5), .ref (m + 6), .ref (m + 7), .ref (m + 8), .ref (m + 9), .ref (m + 10), .ref (m + 11), .ref (m + 12), .ref (m + 13), .ref (m + 14), .ref (m + 15), .int 0, .int 0, .int 0, .int 0, .int 0, .int 0, .int 0, .int 0, .int 0, .int (-1), .ref (m + 16), .ref (m + 17), .ref (m + 18), .ref (m + 19), .ref (m + 20), .int 0, .int 0, .ref (m + 21), .ref (m + 22), .int 0]) rfl (up_self z0).symm ?_
  refine m_aload_n F rfl e_X10_plan_5 ?_
  refine m_iload_n F rfl e_X10_plan_6 ?_
  refine m_callV F e_X10_plan_7 (k_isLease0 (x_l X) V _ _ m 0 0 0 0 0 0 0 0 0 0 0 (-1) 0 0 0 x z0 z2 ) cb_X10_isLease ml_X10_292 im_X10_isLease se_X10_isLease z0 rfl rfl (rest := []) rfl (Nat.le_of_ble_eq_true rfl) ⟨Nat.le_of_ble_eq_true rfl, Nat.le_of_ble_eq_true rfl⟩ ⟨Nat.le_of_ble_eq_true rfl, Nat.le_of_ble_eq_true rfl⟩ (k' := 0) (z' := 0) (N' := N) rfl rfl rfl (fun r τ hp => ?_)
  obtain ⟨rfl, rfl⟩ := hp
  refine m_if_eq F e_X10_plan_10 (fun _ => ?_) (fun q => absurd (by decide) q)
  refine m_ldc2 F kc_X10_245 e_X10_plan_29 ?_
  exact m_lret F hQ e_X10_plan_32 (rfl)
set_option maxRecDepth 20000 in
theorem n_soon (l : Launch) (V : VX) (N : Nat) (σ : Mem) (m : Nat) (x y : Int32) (hZ : MZ V σ m) : Ct l V yX10_soon cX10_soon 7 (some .long) 3 0 0 N σ [.ref m, .int x, .int y] (fun r _ => r = some (.long (-1))) := by
  refine Ct.of (by decide) (Nat.le_of_ble_eq_true rfl) [(0, .ref m), (1, .int x), (2, .int y)] rfl (fun X hX F hQ => ?_)
  obtain ⟨z0, z1, z2, z3, z4, z5, z6, z7, z8, z9, z10, z11, z12, z13, z14, z15, z16, z17, z18, z19, z20, z21, z22⟩ := hZ
  refine m_aload_n F rfl e_X10_soon_0 ?_
  refine m_iconst F (v := 0) (by decide) e_X10_soon_1 ?_
  refine m_put F e_X10_soon_2 fp_X10_91 z0 rfl rfl (Nat.le_of_ble_eq_true rfl) (fs' := [.int 0, .ref (m + 1), .int 0, .ref (m + 2), .ref (m + 3), .ref (m + 4), .ref (m + 5), .ref (m + 6), .ref (m + 7), .ref (m + 8), .ref (m + 9), .ref (m + 10), .ref (m + 11), .ref (m + 12), .ref (m + 13), .ref (m + 14), .ref (m + 15), .int 0, .int 0, .int 0, .int 0, .int 0, .int 0, .int 0, .int 0, .int 0, .int (-1), .ref (m + 16), .ref (m + 17), .ref (m + 18), .ref (m + 19), .ref (m + 20), .int 0, .int 0, .ref (m + 21), .ref (m + 22), .int 0]) rfl (up_self z0).symm ?_
  refine m_aload_n F rfl e_X10_soon_5 ?_
  refine m_iload_n F rfl e_X10_soon_6 ?_
  refine m_callV F e_X10_soon_7 (k_isLease0 (x_l X) V _ _ m 0 0 0 0 0 0 0 0 0 0 0 (-1) 0 0 0 x z0 z2 ) cb_X10_isLease ml_X10_292 im_X10_isLease se_X10_isLease z0 rfl rfl (rest := []) rfl (Nat.le_of_ble_eq_true rfl) ⟨Nat.le_of_ble_eq_true rfl, Nat.le_of_ble_eq_true rfl⟩ ⟨Nat.le_of_ble_eq_true rfl, Nat.le_of_ble_eq_true rfl⟩ (k' := 0) (z' := 0) (N' := N) rfl rfl rfl (fun r τ hp => ?_)
  obtain ⟨rfl, rfl⟩ := hp
  refine m_if_eq F e_X10_soon_10 (fun _ => ?_) (fun q => absurd (by decide) q)
  refine m_ldc2 F kc_X10_245 e_X10_soon_22 ?_
  exact m_lret F hQ e_X10_soon_25 (rfl)
set_option maxRecDepth 20000 in
theorem n_life (l : Launch) (V : VX) (N : Nat) (σ : Mem) (m : Nat) (x y : Int32) (hZ : MZ V σ m) : Ct l V yX10_life cX10_life 11 (some .long) 3 0 0 N σ [.ref m, .int x, .int y] (fun r _ => r = some (.long (-1))) := by
  refine Ct.of (by decide) (Nat.le_of_ble_eq_true rfl) [(0, .ref m), (1, .int x), (2, .int y)] rfl (fun X hX F hQ => ?_)
  obtain ⟨z0, z1, z2, z3, z4, z5, z6, z7, z8, z9, z10, z11, z12, z13, z14, z15, z16, z17, z18, z19, z20, z21, z22⟩ := hZ
  refine m_aload_n F rfl e_X10_life_0 ?_
  refine m_iconst F (v := 0) (by decide) e_X10_life_1 ?_
  refine m_put F e_X10_life_2 fp_X10_91 z0 rfl rfl (Nat.le_of_ble_eq_true rfl) (fs' := [.int 0, .ref (m + 1), .int 0, .ref (m + 2), .ref (m + 3), .ref (m + 4), .ref (m + 5), .ref (m + 6), .ref (m + 7), .ref (m + 8), .ref (m + 9), .ref (m + 10), .ref (m + 11), .ref (m + 12), .ref (m + 13), .ref (m + 14), .ref (m + 15), .int 0, .int 0, .int 0, .int 0, .int 0, .int 0, .int 0, .int 0, .int 0, .int (-1), .ref (m + 16), .ref (m + 17), .ref (m + 18), .ref (m + 19), .ref (m + 20), .int 0, .int 0, .ref (m + 21), .ref (m + 22), .int 0]) rfl (up_self z0).symm ?_
  refine m_aload_n F rfl e_X10_life_5 ?_
  refine m_iload_n F rfl e_X10_life_6 ?_
  refine m_callV F e_X10_life_7 (k_isLease0 (x_l X) V _ _ m 0 0 0 0 0 0 0 0 0 0 0 (-1) 0 0 0 x z0 z2 ) cb_X10_isLease ml_X10_292 im_X10_isLease se_X10_isLease z0 rfl rfl (rest := []) rfl (Nat.le_of_ble_eq_true rfl) ⟨Nat.le_of_ble_eq_true rfl, Nat.le_of_ble_eq_true rfl⟩ ⟨Nat.le_of_ble_eq_true rfl, Nat.le_of_ble_eq_true rfl⟩ (k' := 0) (z' := 0) (N' := N) rfl rfl rfl (fun r τ hp => ?_)
  obtain ⟨rfl, rfl⟩ := hp
  refine m_if_ne F e_X10_life_10 (fun q => absurd (by decide) q) (fun _ => ?_)
  refine m_ldc2 F kc_X10_245 e_X10_life_13 ?_
  exact m_lret F hQ e_X10_life_16 (rfl)
set_option maxRecDepth 20000 in
theorem n_ifIndex (l : Launch) (V : VX) (N : Nat) (σ : Mem) (m : Nat) (x y : Int32) (hZ : MZ V σ m) : Ct l V yX10_ifIndex cX10_ifIndex 5 (some .long) 3 0 0 N σ [.ref m, .int x, .int y] (fun r _ => r = some (.long (-1))) := by
  refine Ct.of (by decide) (Nat.le_of_ble_eq_true rfl) [(0, .ref m), (1, .int x), (2, .int y)] rfl (fun X hX F hQ => ?_)
  obtain ⟨z0, z1, z2, z3, z4, z5, z6, z7, z8, z9, z10, z11, z12, z13, z14, z15, z16, z17, z18, z19, z20, z21, z22⟩ := hZ
  refine m_aload_n F rfl e_X10_ifIndex_0 ?_
  refine m_iconst F (v := 0) (by decide) e_X10_ifIndex_1 ?_
  refine m_put F e_X10_ifIndex_2 fp_X10_91 z0 rfl rfl (Nat.le_of_ble_eq_true rfl) (fs' := [.int 0, .ref (m + 1), .int 0, .ref (m + 2), .ref (m + 3), .ref (m + 4), .ref (m + 5), .ref (m + 6), .ref (m + 7), .ref (m + 8), .ref (m + 9), .ref (m + 10), .ref (m + 11), .ref (m + 12), .ref (m + 13), .ref (m + 14), .ref (m + 15), .int 0, .int 0, .int 0, .int 0, .int 0, .int 0, .int 0, .int 0, .int 0, .int (-1), .ref (m + 16), .ref (m + 17), .ref (m + 18), .ref (m + 19), .ref (m + 20), .int 0, .int 0, .ref (m + 21), .ref (m + 22), .int 0]) rfl (up_self z0).symm ?_
  refine m_aload_n F rfl e_X10_ifIndex_5 ?_
  refine m_iload_n F rfl e_X10_ifIndex_6 ?_
  refine m_callV F e_X10_ifIndex_7 (k_isLease0 (x_l X) V _ _ m 0 0 0 0 0 0 0 0 0 0 0 (-1) 0 0 0 x z0 z2 ) cb_X10_isLease ml_X10_292 im_X10_isLease se_X10_isLease z0 rfl rfl (rest := []) rfl (Nat.le_of_ble_eq_true rfl) ⟨Nat.le_of_ble_eq_true rfl, Nat.le_of_ble_eq_true rfl⟩ ⟨Nat.le_of_ble_eq_true rfl, Nat.le_of_ble_eq_true rfl⟩ (k' := 0) (z' := 0) (N' := N) rfl rfl rfl (fun r τ hp => ?_)
  obtain ⟨rfl, rfl⟩ := hp
  refine m_if_eq F e_X10_ifIndex_10 (fun _ => ?_) (fun q => absurd (by decide) q)
  refine m_ldc2 F kc_X10_245 e_X10_ifIndex_27 ?_
  exact m_lret F hQ e_X10_ifIndex_30 (rfl)
set_option maxRecDepth 20000 in
theorem n_moved (l : Launch) (V : VX) (N : Nat) (σ : Mem) (m : Nat) (x y : Int32) (hZ : MZ V σ m) : Ct l V yX10_moved cX10_moved 3 (some .long) 3 0 0 N σ [.ref m, .int x, .int y] (fun r _ => r = some (.long NOA)) := by
  refine Ct.of (by decide) (Nat.le_of_ble_eq_true rfl) [(0, .ref m), (1, .int x), (2, .int y)] rfl (fun X hX F hQ => ?_)
  obtain ⟨z0, z1, z2, z3, z4, z5, z6, z7, z8, z9, z10, z11, z12, z13, z14, z15, z16, z17, z18, z19, z20, z21, z22⟩ := hZ
  refine m_aload_n F rfl e_X10_moved_0 ?_
  refine m_iconst F (v := 0) (by decide) e_X10_moved_1 ?_
  refine m_put F e_X10_moved_2 fp_X10_91 z0 rfl rfl (Nat.le_of_ble_eq_true rfl) (fs' := [.int 0, .ref (m + 1), .int 0, .ref (m + 2), .ref (m + 3), .ref (m + 4), .ref (m + 5), .ref (m + 6), .ref (m + 7), .ref (m + 8), .ref (m + 9), .ref (m + 10), .ref (m + 11), .ref (m + 12), .ref (m + 13), .ref (m + 14), .ref (m + 15), .int 0, .int 0, .int 0, .int 0, .int 0, .int 0, .int 0, .int 0, .int 0, .int (-1), .ref (m + 16), .ref (m + 17), .ref (m + 18), .ref (m + 19), .ref (m + 20), .int 0, .int 0, .ref (m + 21), .ref (m + 22), .int 0]) rfl (up_self z0).symm ?_
  refine m_aload_n F rfl e_X10_moved_5 ?_
  refine m_iload_n F rfl e_X10_moved_6 ?_
  refine m_callV F e_X10_moved_7 (k_isLease0 (x_l X) V _ _ m 0 0 0 0 0 0 0 0 0 0 0 (-1) 0 0 0 x z0 z2 ) cb_X10_isLease ml_X10_292 im_X10_isLease se_X10_isLease z0 rfl rfl (rest := []) rfl (Nat.le_of_ble_eq_true rfl) ⟨Nat.le_of_ble_eq_true rfl, Nat.le_of_ble_eq_true rfl⟩ ⟨Nat.le_of_ble_eq_true rfl, Nat.le_of_ble_eq_true rfl⟩ (k' := 0) (z' := 0) (N' := N) rfl rfl rfl (fun r τ hp => ?_)
  obtain ⟨rfl, rfl⟩ := hp
  refine m_if_eq F e_X10_moved_10 (fun _ => ?_) (fun q => absurd (by decide) q)
  refine m_ldc2 F kc_X10_299 e_X10_moved_40 ?_
  exact m_lret F hQ e_X10_moved_43 (rfl)
set_option maxRecDepth 20000 in
theorem n_rate (l : Launch) (V : VX) (N : Nat) (σ : Mem) (m : Nat) (x y : Int32) (hZ : MZ V σ m) : Ct l V yX10_rate cX10_rate 3 (some .long) 3 0 0 N σ [.ref m, .int x, .int y] (fun r _ => r = some (.long NOA)) := by
  refine Ct.of (by decide) (Nat.le_of_ble_eq_true rfl) [(0, .ref m), (1, .int x), (2, .int y)] rfl (fun X hX F hQ => ?_)
  obtain ⟨z0, z1, z2, z3, z4, z5, z6, z7, z8, z9, z10, z11, z12, z13, z14, z15, z16, z17, z18, z19, z20, z21, z22⟩ := hZ
  refine m_aload_n F rfl e_X10_rate_0 ?_
  refine m_iconst F (v := 0) (by decide) e_X10_rate_1 ?_
  refine m_put F e_X10_rate_2 fp_X10_91 z0 rfl rfl (Nat.le_of_ble_eq_true rfl) (fs' := [.int 0, .ref (m + 1), .int 0, .ref (m + 2), .ref (m + 3), .ref (m + 4), .ref (m + 5), .ref (m + 6), .ref (m + 7), .ref (m + 8), .ref (m + 9), .ref (m + 10), .ref (m + 11), .ref (m + 12), .ref (m + 13), .ref (m + 14), .ref (m + 15), .int 0, .int 0, .int 0, .int 0, .int 0, .int 0, .int 0, .int 0, .int 0, .int (-1), .ref (m + 16), .ref (m + 17), .ref (m + 18), .ref (m + 19), .ref (m + 20), .int 0, .int 0, .ref (m + 21), .ref (m + 22), .int 0]) rfl (up_self z0).symm ?_
  refine m_aload_n F rfl e_X10_rate_5 ?_
  refine m_iload_n F rfl e_X10_rate_6 ?_
  refine m_callV F e_X10_rate_7 (k_isRunning0 (x_l X) V _ _ m 0 0 0 0 0 0 0 0 0 0 0 (-1) 0 0 0 x z0 z2 ) cb_X10_isRunning ml_X10_301 im_X10_isRunning se_X10_isRunning z0 rfl rfl (rest := []) rfl (Nat.le_of_ble_eq_true rfl) ⟨Nat.le_of_ble_eq_true rfl, Nat.le_of_ble_eq_true rfl⟩ ⟨Nat.le_of_ble_eq_true rfl, Nat.le_of_ble_eq_true rfl⟩ (k' := 0) (z' := 0) (N' := N) rfl rfl rfl (fun r τ hp => ?_)
  obtain ⟨rfl, rfl⟩ := hp
  refine m_if_eq F e_X10_rate_10 (fun _ => ?_) (fun q => absurd (by decide) q)
  refine m_ldc2 F kc_X10_299 e_X10_rate_23 ?_
  exact m_lret F hQ e_X10_rate_26 (rfl)
set_option maxRecDepth 20000 in
theorem n_extend (l : Launch) (V : VX) (N : Nat) (σ : Mem) (m : Nat) (x y : Int32) (hZ : MZ V σ m) : Ct l V yX10_extend cX10_extend 4 (some .long) 3 0 0 N σ [.ref m, .int x, .int y] (fun r _ => r = some (.long NOA)) := by
  refine Ct.of (by decide) (Nat.le_of_ble_eq_true rfl) [(0, .ref m), (1, .int x), (2, .int y)] rfl (fun X hX F hQ => ?_)
  obtain ⟨z0, z1, z2, z3, z4, z5, z6, z7, z8, z9, z10, z11, z12, z13, z14, z15, z16, z17, z18, z19, z20, z21, z22⟩ := hZ
  refine m_aload_n F rfl e_X10_extend_0 ?_
  refine m_iconst F (v := 0) (by decide) e_X10_extend_1 ?_
  refine m_put F e_X10_extend_2 fp_X10_91 z0 rfl rfl (Nat.le_of_ble_eq_true rfl) (fs' := [.int 0, .ref (m + 1), .int 0, .ref (m + 2), .ref (m + 3), .ref (m + 4), .ref (m + 5), .ref (m + 6), .ref (m + 7), .ref (m + 8), .ref (m + 9), .ref (m + 10), .ref (m + 11), .ref (m + 12), .ref (m + 13), .ref (m + 14), .ref (m + 15), .int 0, .int 0, .int 0, .int 0, .int 0, .int 0, .int 0, .int 0, .int 0, .int (-1), .ref (m + 16), .ref (m + 17), .ref (m + 18), .ref (m + 19), .ref (m + 20), .int 0, .int 0, .ref (m + 21), .ref (m + 22), .int 0]) rfl (up_self z0).symm ?_
  refine m_aload_n F rfl e_X10_extend_5 ?_
  refine m_iload_n F rfl e_X10_extend_6 ?_
  refine m_callV F e_X10_extend_7 (k_isRunning0 (x_l X) V _ _ m 0 0 0 0 0 0 0 0 0 0 0 (-1) 0 0 0 x z0 z2 ) cb_X10_isRunning ml_X10_301 im_X10_isRunning se_X10_isRunning z0 rfl rfl (rest := []) rfl (Nat.le_of_ble_eq_true rfl) ⟨Nat.le_of_ble_eq_true rfl, Nat.le_of_ble_eq_true rfl⟩ ⟨Nat.le_of_ble_eq_true rfl, Nat.le_of_ble_eq_true rfl⟩ (k' := 0) (z' := 0) (N' := N) rfl rfl rfl (fun r τ hp => ?_)
  obtain ⟨rfl, rfl⟩ := hp
  refine m_if_eq F e_X10_extend_10 (fun _ => ?_) (fun q => absurd (by decide) q)
  refine m_ldc2 F kc_X10_299 e_X10_extend_33 ?_
  exact m_lret F hQ e_X10_extend_36 (rfl)
set_option maxRecDepth 20000 in
theorem n_take (l : Launch) (V : VX) (N : Nat) (σ : Mem) (m : Nat) (x : Int32) (hZ : MZ V σ m) : Ct l V yX10_take cX10_take 2 (some .long) 3 0 0 N σ [.ref m, .int x] (fun r _ => r = some (.long NOA)) := by
  refine Ct.of (by decide) (Nat.le_of_ble_eq_true rfl) [(0, .ref m), (1, .int x)] rfl (fun X hX F hQ => ?_)
  obtain ⟨z0, z1, z2, z3, z4, z5, z6, z7, z8, z9, z10, z11, z12, z13, z14, z15, z16, z17, z18, z19, z20, z21, z22⟩ := hZ
  refine m_aload_n F rfl e_X10_take_0 ?_
  refine m_iconst F (v := 0) (by decide) e_X10_take_1 ?_
  refine m_put F e_X10_take_2 fp_X10_91 z0 rfl rfl (Nat.le_of_ble_eq_true rfl) (fs' := [.int 0, .ref (m + 1), .int 0, .ref (m + 2), .ref (m + 3), .ref (m + 4), .ref (m + 5), .ref (m + 6), .ref (m + 7), .ref (m + 8), .ref (m + 9), .ref (m + 10), .ref (m + 11), .ref (m + 12), .ref (m + 13), .ref (m + 14), .ref (m + 15), .int 0, .int 0, .int 0, .int 0, .int 0, .int 0, .int 0, .int 0, .int 0, .int (-1), .ref (m + 16), .ref (m + 17), .ref (m + 18), .ref (m + 19), .ref (m + 20), .int 0, .int 0, .ref (m + 21), .ref (m + 22), .int 0]) rfl (up_self z0).symm ?_
  refine m_aload_n F rfl e_X10_take_5 ?_
  refine m_iload_n F rfl e_X10_take_6 ?_
  refine m_callV F e_X10_take_7 (k_canTake0 (x_l X) V _ _ m 0 0 0 0 0 0 0 0 0 0 0 (-1) 0 0 0 x z0 z2 ) cb_X10_canTake ml_X10_313 im_X10_canTake se_X10_canTake z0 rfl rfl (rest := []) rfl (Nat.le_of_ble_eq_true rfl) ⟨Nat.le_of_ble_eq_true rfl, Nat.le_of_ble_eq_true rfl⟩ ⟨Nat.le_of_ble_eq_true rfl, Nat.le_of_ble_eq_true rfl⟩ (k' := 0) (z' := 0) (N' := N) rfl rfl rfl (fun r τ hp => ?_)
  obtain ⟨rfl, rfl⟩ := hp
  refine m_if_ne F e_X10_take_10 (fun q => absurd (by decide) q) (fun _ => ?_)
  refine m_ldc2 F kc_X10_299 e_X10_take_13 ?_
  exact m_lret F hQ e_X10_take_16 (rfl)
set_option maxRecDepth 20000 in
theorem n_part (l : Launch) (V : VX) (N : Nat) (σ : Mem) (m : Nat) (x y : Int32) (hZ : MZ V σ m) : Ct l V yX10_part cX10_part 9 (some .long) 3 0 0 N σ [.ref m, .int x, .int y] (fun r _ => r = some (.long NOA)) := by
  refine Ct.of (by decide) (Nat.le_of_ble_eq_true rfl) [(0, .ref m), (1, .int x), (2, .int y)] rfl (fun X hX F hQ => ?_)
  obtain ⟨z0, z1, z2, z3, z4, z5, z6, z7, z8, z9, z10, z11, z12, z13, z14, z15, z16, z17, z18, z19, z20, z21, z22⟩ := hZ
  refine m_aload_n F rfl e_X10_part_0 ?_
  refine m_iconst F (v := 0) (by decide) e_X10_part_1 ?_
  refine m_put F e_X10_part_2 fp_X10_91 z0 rfl rfl (Nat.le_of_ble_eq_true rfl) (fs' := [.int 0, .ref (m + 1), .int 0, .ref (m + 2), .ref (m + 3), .ref (m + 4), .ref (m + 5), .ref (m + 6), .ref (m + 7), .ref (m + 8), .ref (m + 9), .ref (m + 10), .ref (m + 11), .ref (m + 12), .ref (m + 13), .ref (m + 14), .ref (m + 15), .int 0, .int 0, .int 0, .int 0, .int 0, .int 0, .int 0, .int 0, .int 0, .int (-1), .ref (m + 16), .ref (m + 17), .ref (m + 18), .ref (m + 19), .ref (m + 20), .int 0, .int 0, .ref (m + 21), .ref (m + 22), .int 0]) rfl (up_self z0).symm ?_
  refine m_aload_n F rfl e_X10_part_5 ?_
  refine m_iload_n F rfl e_X10_part_6 ?_
  refine m_callV F e_X10_part_7 (k_isRunning0 (x_l X) V _ _ m 0 0 0 0 0 0 0 0 0 0 0 (-1) 0 0 0 x z0 z2 ) cb_X10_isRunning ml_X10_301 im_X10_isRunning se_X10_isRunning z0 rfl rfl (rest := []) rfl (Nat.le_of_ble_eq_true rfl) ⟨Nat.le_of_ble_eq_true rfl, Nat.le_of_ble_eq_true rfl⟩ ⟨Nat.le_of_ble_eq_true rfl, Nat.le_of_ble_eq_true rfl⟩ (k' := 0) (z' := 0) (N' := N) rfl rfl rfl (fun r τ hp => ?_)
  obtain ⟨rfl, rfl⟩ := hp
  refine m_if_eq F e_X10_part_10 (fun _ => ?_) (fun q => absurd (by decide) q)
  refine m_ldc2 F kc_X10_299 e_X10_part_25 ?_
  exact m_lret F hQ e_X10_part_28 (rfl)
set_option maxRecDepth 20000 in
theorem n_end (l : Launch) (V : VX) (N : Nat) (σ : Mem) (m : Nat) (x : Int32) (hZ : MZ V σ m) : Ct l V yX10_end cX10_end 5 (some .long) 3 0 0 N σ [.ref m, .int x] (fun r _ => r = some (.long NOA)) := by
  refine Ct.of (by decide) (Nat.le_of_ble_eq_true rfl) [(0, .ref m), (1, .int x)] rfl (fun X hX F hQ => ?_)
  obtain ⟨z0, z1, z2, z3, z4, z5, z6, z7, z8, z9, z10, z11, z12, z13, z14, z15, z16, z17, z18, z19, z20, z21, z22⟩ := hZ
  refine m_aload_n F rfl e_X10_end_0 ?_
  refine m_iconst F (v := 0) (by decide) e_X10_end_1 ?_
  refine m_put F e_X10_end_2 fp_X10_91 z0 rfl rfl (Nat.le_of_ble_eq_true rfl) (fs' := [.int 0, .ref (m + 1), .int 0, .ref (m + 2), .ref (m + 3), .ref (m + 4), .ref (m + 5), .ref (m + 6), .ref (m + 7), .ref (m + 8), .ref (m + 9), .ref (m + 10), .ref (m + 11), .ref (m + 12), .ref (m + 13), .ref (m + 14), .ref (m + 15), .int 0, .int 0, .int 0, .int 0, .int 0, .int 0, .int 0, .int 0, .int 0, .int (-1), .ref (m + 16), .ref (m + 17), .ref (m + 18), .ref (m + 19), .ref (m + 20), .int 0, .int 0, .ref (m + 21), .ref (m + 22), .int 0]) rfl (up_self z0).symm ?_
  refine m_aload_n F rfl e_X10_end_5 ?_
  refine m_iload_n F rfl e_X10_end_6 ?_
  refine m_callV F e_X10_end_7 (k_isRunning0 (x_l X) V _ _ m 0 0 0 0 0 0 0 0 0 0 0 (-1) 0 0 0 x z0 z2 ) cb_X10_isRunning ml_X10_301 im_X10_isRunning se_X10_isRunning z0 rfl rfl (rest := []) rfl (Nat.le_of_ble_eq_true rfl) ⟨Nat.le_of_ble_eq_true rfl, Nat.le_of_ble_eq_true rfl⟩ ⟨Nat.le_of_ble_eq_true rfl, Nat.le_of_ble_eq_true rfl⟩ (k' := 0) (z' := 0) (N' := N) rfl rfl rfl (fun r τ hp => ?_)
  obtain ⟨rfl, rfl⟩ := hp
  refine m_if_ne F e_X10_end_10 (fun q => absurd (by decide) q) (fun _ => ?_)
  refine m_ldc2 F kc_X10_299 e_X10_end_13 ?_
  exact m_lret F hQ e_X10_end_16 (rfl)
set_option maxRecDepth 20000 in
theorem n_putOff (l : Launch) (V : VX) (N : Nat) (σ : Mem) (m : Nat) (x y z : Int32) (hZ : MZ V σ m) : Ct l V yX10_putOff cX10_putOff 5 (some .long) 3 0 0 N σ [.ref m, .int x, .int y, .int z] (fun r _ => r = some (.long NOA)) := by
  refine Ct.of (by decide) (Nat.le_of_ble_eq_true rfl) [(0, .ref m), (1, .int x), (2, .int y), (3, .int z)] rfl (fun X hX F hQ => ?_)
  obtain ⟨z0, z1, z2, z3, z4, z5, z6, z7, z8, z9, z10, z11, z12, z13, z14, z15, z16, z17, z18, z19, z20, z21, z22⟩ := hZ
  refine m_aload_n F rfl e_X10_putOff_0 ?_
  refine m_iconst F (v := 0) (by decide) e_X10_putOff_1 ?_
  refine m_put F e_X10_putOff_2 fp_X10_91 z0 rfl rfl (Nat.le_of_ble_eq_true rfl) (fs' := [.int 0, .ref (m + 1), .int 0, .ref (m + 2), .ref (m + 3), .ref (m + 4), .ref (m + 5), .ref (m + 6), .ref (m + 7), .ref (m + 8), .ref (m + 9), .ref (m + 10), .ref (m + 11), .ref (m + 12), .ref (m + 13), .ref (m + 14), .ref (m + 15), .int 0, .int 0, .int 0, .int 0, .int 0, .int 0, .int 0, .int 0, .int 0, .int (-1), .ref (m + 16), .ref (m + 17), .ref (m + 18), .ref (m + 19), .ref (m + 20), .int 0, .int 0, .ref (m + 21), .ref (m + 22), .int 0]) rfl (up_self z0).symm ?_
  refine m_aload_n F rfl e_X10_putOff_5 ?_
  refine m_iload_n F rfl e_X10_putOff_6 ?_
  refine m_callV F e_X10_putOff_7 (k_isRunning0 (x_l X) V _ _ m 0 0 0 0 0 0 0 0 0 0 0 (-1) 0 0 0 x z0 z2 ) cb_X10_isRunning ml_X10_301 im_X10_isRunning se_X10_isRunning z0 rfl rfl (rest := []) rfl (Nat.le_of_ble_eq_true rfl) ⟨Nat.le_of_ble_eq_true rfl, Nat.le_of_ble_eq_true rfl⟩ ⟨Nat.le_of_ble_eq_true rfl, Nat.le_of_ble_eq_true rfl⟩ (k' := 0) (z' := 0) (N' := N) rfl rfl rfl (fun r τ hp => ?_)
  obtain ⟨rfl, rfl⟩ := hp
  refine m_if_eq F e_X10_putOff_10 (fun _ => ?_) (fun q => absurd (by decide) q)
  refine m_ldc2 F kc_X10_299 e_X10_putOff_54 ?_
  exact m_lret F hQ e_X10_putOff_57 (rfl)
set_option maxRecDepth 20000 in
theorem n_ifTaken (l : Launch) (V : VX) (N : Nat) (σ : Mem) (m : Nat) (x : Int32) (hZ : MZ V σ m) : Ct l V yX10_ifTaken cX10_ifTaken 4 (some .long) 3 0 0 N σ [.ref m, .int x] (fun r _ => r = some (.long NOA)) := by
  refine Ct.of (by decide) (Nat.le_of_ble_eq_true rfl) [(0, .ref m), (1, .int x)] rfl (fun X hX F hQ => ?_)
  obtain ⟨z0, z1, z2, z3, z4, z5, z6, z7, z8, z9, z10, z11, z12, z13, z14, z15, z16, z17, z18, z19, z20, z21, z22⟩ := hZ
  refine m_aload_n F rfl e_X10_ifTaken_0 ?_
  refine m_iconst F (v := 0) (by decide) e_X10_ifTaken_1 ?_
  refine m_put F e_X10_ifTaken_2 fp_X10_91 z0 rfl rfl (Nat.le_of_ble_eq_true rfl) (fs' := [.int 0, .ref (m + 1), .int 0, .ref (m + 2), .ref (m + 3), .ref (m + 4), .ref (m + 5), .ref (m + 6), .ref (m + 7), .ref (m + 8), .ref (m + 9), .ref (m + 10), .ref (m + 11), .ref (m + 12), .ref (m + 13), .ref (m + 14), .ref (m + 15), .int 0, .int 0, .int 0, .int 0, .int 0, .int 0, .int 0, .int 0, .int 0, .int (-1), .ref (m + 16), .ref (m + 17), .ref (m + 18), .ref (m + 19), .ref (m + 20), .int 0, .int 0, .ref (m + 21), .ref (m + 22), .int 0]) rfl (up_self z0).symm ?_
  refine m_aload_n F rfl e_X10_ifTaken_5 ?_
  refine m_iload_n F rfl e_X10_ifTaken_6 ?_
  refine m_callV F e_X10_ifTaken_7 (k_canTake0 (x_l X) V _ _ m 0 0 0 0 0 0 0 0 0 0 0 (-1) 0 0 0 x z0 z2 ) cb_X10_canTake ml_X10_313 im_X10_canTake se_X10_canTake z0 rfl rfl (rest := []) rfl (Nat.le_of_ble_eq_true rfl) ⟨Nat.le_of_ble_eq_true rfl, Nat.le_of_ble_eq_true rfl⟩ ⟨Nat.le_of_ble_eq_true rfl, Nat.le_of_ble_eq_true rfl⟩ (k' := 0) (z' := 0) (N' := N) rfl rfl rfl (fun r τ hp => ?_)
  obtain ⟨rfl, rfl⟩ := hp
  refine m_if_ne F e_X10_ifTaken_10 (fun q => absurd (by decide) q) (fun _ => ?_)
  refine m_ldc2 F kc_X10_299 e_X10_ifTaken_13 ?_
  exact m_lret F hQ e_X10_ifTaken_16 (rfl)
set_option maxRecDepth 20000 in
theorem n_down (l : Launch) (V : VX) (N : Nat) (σ : Mem) (m : Nat) (x : Int32) (v : Int64) (hZ : MZ V σ m) : Ct l V yX10_down cX10_down 4 (some .long) 3 0 0 N σ [.ref m, .int x, .long v] (fun r _ => r = some (.long NOA)) := by
  refine Ct.of (by decide) (Nat.le_of_ble_eq_true rfl) [(0, .ref m), (1, .int x), (2, .long v)] rfl (fun X hX F hQ => ?_)
  obtain ⟨z0, z1, z2, z3, z4, z5, z6, z7, z8, z9, z10, z11, z12, z13, z14, z15, z16, z17, z18, z19, z20, z21, z22⟩ := hZ
  refine m_aload_n F rfl e_X10_down_0 ?_
  refine m_iconst F (v := 0) (by decide) e_X10_down_1 ?_
  refine m_put F e_X10_down_2 fp_X10_91 z0 rfl rfl (Nat.le_of_ble_eq_true rfl) (fs' := [.int 0, .ref (m + 1), .int 0, .ref (m + 2), .ref (m + 3), .ref (m + 4), .ref (m + 5), .ref (m + 6), .ref (m + 7), .ref (m + 8), .ref (m + 9), .ref (m + 10), .ref (m + 11), .ref (m + 12), .ref (m + 13), .ref (m + 14), .ref (m + 15), .int 0, .int 0, .int 0, .int 0, .int 0, .int 0, .int 0, .int 0, .int 0, .int (-1), .ref (m + 16), .ref (m + 17), .ref (m + 18), .ref (m + 19), .ref (m + 20), .int 0, .int 0, .ref (m + 21), .ref (m + 22), .int 0]) rfl (up_self z0).symm ?_
  refine m_aload_n F rfl e_X10_down_5 ?_
  refine m_iload_n F rfl e_X10_down_6 ?_
  refine m_callV F e_X10_down_7 (k_isRunning0 (x_l X) V _ _ m 0 0 0 0 0 0 0 0 0 0 0 (-1) 0 0 0 x z0 z2 ) cb_X10_isRunning ml_X10_301 im_X10_isRunning se_X10_isRunning z0 rfl rfl (rest := []) rfl (Nat.le_of_ble_eq_true rfl) ⟨Nat.le_of_ble_eq_true rfl, Nat.le_of_ble_eq_true rfl⟩ ⟨Nat.le_of_ble_eq_true rfl, Nat.le_of_ble_eq_true rfl⟩ (k' := 0) (z' := 0) (N' := N) rfl rfl rfl (fun r τ hp => ?_)
  obtain ⟨rfl, rfl⟩ := hp
  refine m_if_eq F e_X10_down_10 (fun _ => ?_) (fun q => absurd (by decide) q)
  refine m_ldc2 F kc_X10_299 e_X10_down_37 ?_
  exact m_lret F hQ e_X10_down_40 (rfl)
set_option maxRecDepth 20000 in
theorem n_named (l : Launch) (V : VX) (N : Nat) (σ : Mem) (m : Nat) (x : Int32) (hZ : MZ V σ m) : Ct l V yX10_named cX10_named 2 (some .int) 3 0 0 N σ [.ref m, .int x] (fun r _ => r = some (.int (-1))) := by
  refine Ct.of (by decide) (Nat.le_of_ble_eq_true rfl) [(0, .ref m), (1, .int x)] rfl (fun X hX F hQ => ?_)
  obtain ⟨z0, z1, z2, z3, z4, z5, z6, z7, z8, z9, z10, z11, z12, z13, z14, z15, z16, z17, z18, z19, z20, z21, z22⟩ := hZ
  refine m_aload_n F rfl e_X10_named_0 ?_
  refine m_iconst F (v := 0) (by decide) e_X10_named_1 ?_
  refine m_put F e_X10_named_2 fp_X10_91 z0 rfl rfl (Nat.le_of_ble_eq_true rfl) (fs' := [.int 0, .ref (m + 1), .int 0, .ref (m + 2), .ref (m + 3), .ref (m + 4), .ref (m + 5), .ref (m + 6), .ref (m + 7), .ref (m + 8), .ref (m + 9), .ref (m + 10), .ref (m + 11), .ref (m + 12), .ref (m + 13), .ref (m + 14), .ref (m + 15), .int 0, .int 0, .int 0, .int 0, .int 0, .int 0, .int 0, .int 0, .int 0, .int (-1), .ref (m + 16), .ref (m + 17), .ref (m + 18), .ref (m + 19), .ref (m + 20), .int 0, .int 0, .ref (m + 21), .ref (m + 22), .int 0]) rfl (up_self z0).symm ?_
  refine m_aload_n F rfl e_X10_named_5 ?_
  refine m_iconst F (v := 0) (by decide) e_X10_named_6 ?_
  refine m_aload_n F rfl e_X10_named_7 ?_
  refine m_callV F e_X10_named_8 (k_leases0 (x_l X) V _ _ m 0 0 0 0 0 0 0 0 0 0 0 (-1) 0 0 0  z0 z2 ) cb_X10_leases ml_X10_221 im_X10_leases se_X10_leases z0 rfl rfl (rest := [.int 0, .ref m]) rfl (Nat.le_of_ble_eq_true rfl) ⟨Nat.le_of_ble_eq_true rfl, Nat.le_of_ble_eq_true rfl⟩ ⟨Nat.le_of_ble_eq_true rfl, Nat.le_of_ble_eq_true rfl⟩ (k' := 0) (z' := 0) (N' := N) rfl rfl rfl (fun r τ hp => ?_)
  obtain ⟨rfl, rfl⟩ := hp
  refine m_iload_n F rfl e_X10_named_11 ?_
  refine m_callV F e_X10_named_12 (k_namedAt0 (x_l X) V _ _ m 0 0 0 0 0 0 0 0 0 0 0 (-1) 0 0 0 x z0  ) cb_X10_namedAt ml_X10_161 im_X10_namedAt se_X10_namedAt z0 rfl rfl (rest := []) rfl (Nat.le_of_ble_eq_true rfl) ⟨Nat.le_of_ble_eq_true rfl, Nat.le_of_ble_eq_true rfl⟩ ⟨Nat.le_of_ble_eq_true rfl, Nat.le_of_ble_eq_true rfl⟩ (k' := 0) (z' := 0) (N' := N) rfl rfl rfl (fun r τ hp => ?_)
  obtain ⟨rfl, rfl⟩ := hp
  exact m_iret F hQ e_X10_named_15 (rfl)
set_option maxRecDepth 20000 in
theorem n_choose (l : Launch) (V : VX) (N : Nat) (σ : Mem) (m : Nat) (x : Int32) (hZ : MZ V σ m) : Ct l V yX10_choose cX10_choose 13 (some .int) 3 0 0 N σ [.ref m, .int x] (fun r _ => r = some (.int (-1))) := by
  refine Ct.of (by decide) (Nat.le_of_ble_eq_true rfl) [(0, .ref m), (1, .int x)] rfl (fun X hX F hQ => ?_)
  obtain ⟨z0, z1, z2, z3, z4, z5, z6, z7, z8, z9, z10, z11, z12, z13, z14, z15, z16, z17, z18, z19, z20, z21, z22⟩ := hZ
  refine m_aload_n F rfl e_X10_choose_0 ?_
  refine m_iconst F (v := 0) (by decide) e_X10_choose_1 ?_
  refine m_put F e_X10_choose_2 fp_X10_91 z0 rfl rfl (Nat.le_of_ble_eq_true rfl) (fs' := [.int 0, .ref (m + 1), .int 0, .ref (m + 2), .ref (m + 3), .ref (m + 4), .ref (m + 5), .ref (m + 6), .ref (m + 7), .ref (m + 8), .ref (m + 9), .ref (m + 10), .ref (m + 11), .ref (m + 12), .ref (m + 13), .ref (m + 14), .ref (m + 15), .int 0, .int 0, .int 0, .int 0, .int 0, .int 0, .int 0, .int 0, .int 0, .int (-1), .ref (m + 16), .ref (m + 17), .ref (m + 18), .ref (m + 19), .ref (m + 20), .int 0, .int 0, .ref (m + 21), .ref (m + 22), .int 0]) rfl (up_self z0).symm ?_
  refine m_aload_n F rfl e_X10_choose_5 ?_
  refine m_iload_n F rfl e_X10_choose_6 ?_
  refine m_callV F e_X10_choose_7 (k_isLease0 (x_l X) V _ _ m 0 0 0 0 0 0 0 0 0 0 0 (-1) 0 0 0 x z0 z2 ) cb_X10_isLease ml_X10_292 im_X10_isLease se_X10_isLease z0 rfl rfl (rest := []) rfl (Nat.le_of_ble_eq_true rfl) ⟨Nat.le_of_ble_eq_true rfl, Nat.le_of_ble_eq_true rfl⟩ ⟨Nat.le_of_ble_eq_true rfl, Nat.le_of_ble_eq_true rfl⟩ (k' := 0) (z' := 0) (N' := N) rfl rfl rfl (fun r τ hp => ?_)
  obtain ⟨rfl, rfl⟩ := hp
  refine m_if_ne F e_X10_choose_10 (fun q => absurd (by decide) q) (fun _ => ?_)
  refine m_iconst F (v := (-1)) (by decide) e_X10_choose_13 ?_
  exact m_iret F hQ e_X10_choose_14 (rfl)
set_option maxRecDepth 20000 in
theorem n_partFor (l : Launch) (V : VX) (N : Nat) (σ : Mem) (m : Nat) (x : Int32) (v : Int64) (hZ : MZ V σ m) : Ct l V yX10_partFor cX10_partFor 6 (some .int) 3 0 0 N σ [.ref m, .int x, .long v] (fun r _ => r = some (.int (-1))) := by
  refine Ct.of (by decide) (Nat.le_of_ble_eq_true rfl) [(0, .ref m), (1, .int x), (2, .long v)] rfl (fun X hX F hQ => ?_)
  obtain ⟨z0, z1, z2, z3, z4, z5, z6, z7, z8, z9, z10, z11, z12, z13, z14, z15, z16, z17, z18, z19, z20, z21, z22⟩ := hZ
  refine m_aload_n F rfl e_X10_partFor_0 ?_
  refine m_iconst F (v := 0) (by decide) e_X10_partFor_1 ?_
  refine m_put F e_X10_partFor_2 fp_X10_91 z0 rfl rfl (Nat.le_of_ble_eq_true rfl) (fs' := [.int 0, .ref (m + 1), .int 0, .ref (m + 2), .ref (m + 3), .ref (m + 4), .ref (m + 5), .ref (m + 6), .ref (m + 7), .ref (m + 8), .ref (m + 9), .ref (m + 10), .ref (m + 11), .ref (m + 12), .ref (m + 13), .ref (m + 14), .ref (m + 15), .int 0, .int 0, .int 0, .int 0, .int 0, .int 0, .int 0, .int 0, .int 0, .int (-1), .ref (m + 16), .ref (m + 17), .ref (m + 18), .ref (m + 19), .ref (m + 20), .int 0, .int 0, .ref (m + 21), .ref (m + 22), .int 0]) rfl (up_self z0).symm ?_
  refine m_aload_n F rfl e_X10_partFor_5 ?_
  refine m_iload_n F rfl e_X10_partFor_6 ?_
  refine m_callV F e_X10_partFor_7 (k_isLease0 (x_l X) V _ _ m 0 0 0 0 0 0 0 0 0 0 0 (-1) 0 0 0 x z0 z2 ) cb_X10_isLease ml_X10_292 im_X10_isLease se_X10_isLease z0 rfl rfl (rest := []) rfl (Nat.le_of_ble_eq_true rfl) ⟨Nat.le_of_ble_eq_true rfl, Nat.le_of_ble_eq_true rfl⟩ ⟨Nat.le_of_ble_eq_true rfl, Nat.le_of_ble_eq_true rfl⟩ (k' := 0) (z' := 0) (N' := N) rfl rfl rfl (fun r τ hp => ?_)
  obtain ⟨rfl, rfl⟩ := hp
  refine m_if_ne F e_X10_partFor_10 (fun q => absurd (by decide) q) (fun _ => ?_)
  refine m_iconst F (v := (-1)) (by decide) e_X10_partFor_13 ?_
  exact m_iret F hQ e_X10_partFor_14 (rfl)
set_option maxRecDepth 20000 in
theorem n_latest (l : Launch) (V : VX) (N : Nat) (σ : Mem) (m : Nat) (x y : Int32) (hZ : MZ V σ m) : Ct l V yX10_latest cX10_latest 4 (some .int) 3 0 0 N σ [.ref m, .int x, .int y] (fun r _ => r = some (.int (-1))) := by
  refine Ct.of (by decide) (Nat.le_of_ble_eq_true rfl) [(0, .ref m), (1, .int x), (2, .int y)] rfl (fun X hX F hQ => ?_)
  obtain ⟨z0, z1, z2, z3, z4, z5, z6, z7, z8, z9, z10, z11, z12, z13, z14, z15, z16, z17, z18, z19, z20, z21, z22⟩ := hZ
  refine m_aload_n F rfl e_X10_latest_0 ?_
  refine m_iconst F (v := 0) (by decide) e_X10_latest_1 ?_
  refine m_put F e_X10_latest_2 fp_X10_91 z0 rfl rfl (Nat.le_of_ble_eq_true rfl) (fs' := [.int 0, .ref (m + 1), .int 0, .ref (m + 2), .ref (m + 3), .ref (m + 4), .ref (m + 5), .ref (m + 6), .ref (m + 7), .ref (m + 8), .ref (m + 9), .ref (m + 10), .ref (m + 11), .ref (m + 12), .ref (m + 13), .ref (m + 14), .ref (m + 15), .int 0, .int 0, .int 0, .int 0, .int 0, .int 0, .int 0, .int 0, .int 0, .int (-1), .ref (m + 16), .ref (m + 17), .ref (m + 18), .ref (m + 19), .ref (m + 20), .int 0, .int 0, .ref (m + 21), .ref (m + 22), .int 0]) rfl (up_self z0).symm ?_
  refine m_aload_n F rfl e_X10_latest_5 ?_
  refine m_iload_n F rfl e_X10_latest_6 ?_
  refine m_callV F e_X10_latest_7 (k_isLease0 (x_l X) V _ _ m 0 0 0 0 0 0 0 0 0 0 0 (-1) 0 0 0 x z0 z2 ) cb_X10_isLease ml_X10_292 im_X10_isLease se_X10_isLease z0 rfl rfl (rest := []) rfl (Nat.le_of_ble_eq_true rfl) ⟨Nat.le_of_ble_eq_true rfl, Nat.le_of_ble_eq_true rfl⟩ ⟨Nat.le_of_ble_eq_true rfl, Nat.le_of_ble_eq_true rfl⟩ (k' := 0) (z' := 0) (N' := N) rfl rfl rfl (fun r τ hp => ?_)
  obtain ⟨rfl, rfl⟩ := hp
  refine m_if_eq F e_X10_latest_10 (fun _ => ?_) (fun q => absurd (by decide) q)
  refine m_iconst F (v := (-1)) (by decide) e_X10_latest_22 ?_
  exact m_iret F hQ e_X10_latest_23 (rfl)
set_option maxRecDepth 20000 in
theorem n_half (l : Launch) (V : VX) (N : Nat) (σ : Mem) (m : Nat) (x : Int32) (hZ : MZ V σ m) : Ct l V yX10_half cX10_half 6 (some .int) 3 0 0 N σ [.ref m, .int x] (fun r _ => r = some (.int (-1))) := by
  refine Ct.of (by decide) (Nat.le_of_ble_eq_true rfl) [(0, .ref m), (1, .int x)] rfl (fun X hX F hQ => ?_)
  obtain ⟨z0, z1, z2, z3, z4, z5, z6, z7, z8, z9, z10, z11, z12, z13, z14, z15, z16, z17, z18, z19, z20, z21, z22⟩ := hZ
  refine m_aload_n F rfl e_X10_half_0 ?_
  refine m_iconst F (v := 0) (by decide) e_X10_half_1 ?_
  refine m_put F e_X10_half_2 fp_X10_91 z0 rfl rfl (Nat.le_of_ble_eq_true rfl) (fs' := [.int 0, .ref (m + 1), .int 0, .ref (m + 2), .ref (m + 3), .ref (m + 4), .ref (m + 5), .ref (m + 6), .ref (m + 7), .ref (m + 8), .ref (m + 9), .ref (m + 10), .ref (m + 11), .ref (m + 12), .ref (m + 13), .ref (m + 14), .ref (m + 15), .int 0, .int 0, .int 0, .int 0, .int 0, .int 0, .int 0, .int 0, .int 0, .int (-1), .ref (m + 16), .ref (m + 17), .ref (m + 18), .ref (m + 19), .ref (m + 20), .int 0, .int 0, .ref (m + 21), .ref (m + 22), .int 0]) rfl (up_self z0).symm ?_
  refine m_aload_n F rfl e_X10_half_5 ?_
  refine m_iload_n F rfl e_X10_half_6 ?_
  refine m_callV F e_X10_half_7 (k_isLease0 (x_l X) V _ _ m 0 0 0 0 0 0 0 0 0 0 0 (-1) 0 0 0 x z0 z2 ) cb_X10_isLease ml_X10_292 im_X10_isLease se_X10_isLease z0 rfl rfl (rest := []) rfl (Nat.le_of_ble_eq_true rfl) ⟨Nat.le_of_ble_eq_true rfl, Nat.le_of_ble_eq_true rfl⟩ ⟨Nat.le_of_ble_eq_true rfl, Nat.le_of_ble_eq_true rfl⟩ (k' := 0) (z' := 0) (N' := N) rfl rfl rfl (fun r τ hp => ?_)
  obtain ⟨rfl, rfl⟩ := hp
  refine m_if_eq F e_X10_half_10 (fun _ => ?_) (fun q => absurd (by decide) q)
  refine m_iconst F (v := (-1)) (by decide) e_X10_half_30 ?_
  exact m_iret F hQ e_X10_half_31 (rfl)
set_option maxRecDepth 20000 in
theorem n_yields (l : Launch) (V : VX) (N : Nat) (σ : Mem) (m : Nat) (x y : Int32) (v : Int64) (hZ : MZ V σ m) : Ct l V yX10_yields cX10_yields 5 (some .int) 3 0 0 N σ [.ref m, .int x, .int y, .long v] (fun r _ => r = some (.int (-1))) := by
  refine Ct.of (by decide) (Nat.le_of_ble_eq_true rfl) [(0, .ref m), (1, .int x), (2, .int y), (3, .long v)] rfl (fun X hX F hQ => ?_)
  obtain ⟨z0, z1, z2, z3, z4, z5, z6, z7, z8, z9, z10, z11, z12, z13, z14, z15, z16, z17, z18, z19, z20, z21, z22⟩ := hZ
  refine m_aload_n F rfl e_X10_yields_0 ?_
  refine m_iconst F (v := 0) (by decide) e_X10_yields_1 ?_
  refine m_put F e_X10_yields_2 fp_X10_91 z0 rfl rfl (Nat.le_of_ble_eq_true rfl) (fs' := [.int 0, .ref (m + 1), .int 0, .ref (m + 2), .ref (m + 3), .ref (m + 4), .ref (m + 5), .ref (m + 6), .ref (m + 7), .ref (m + 8), .ref (m + 9), .ref (m + 10), .ref (m + 11), .ref (m + 12), .ref (m + 13), .ref (m + 14), .ref (m + 15), .int 0, .int 0, .int 0, .int 0, .int 0, .int 0, .int 0, .int 0, .int 0, .int (-1), .ref (m + 16), .ref (m + 17), .ref (m + 18), .ref (m + 19), .ref (m + 20), .int 0, .int 0, .ref (m + 21), .ref (m + 22), .int 0]) rfl (up_self z0).symm ?_
  refine m_aload_n F rfl e_X10_yields_5 ?_
  refine m_iload_n F rfl e_X10_yields_6 ?_
  refine m_iload_n F rfl e_X10_yields_7 ?_
  refine m_callV F e_X10_yields_8 (k_isOwn0 (x_l X) V _ _ m 0 0 0 0 0 0 0 0 0 0 0 (-1) 0 0 0 x y z0 z2 ) cb_X10_isOwn ml_X10_295 im_X10_isOwn se_X10_isOwn z0 rfl rfl (rest := []) rfl (Nat.le_of_ble_eq_true rfl) ⟨Nat.le_of_ble_eq_true rfl, Nat.le_of_ble_eq_true rfl⟩ ⟨Nat.le_of_ble_eq_true rfl, Nat.le_of_ble_eq_true rfl⟩ (k' := 0) (z' := 0) (N' := N) rfl rfl rfl (fun r τ hp => ?_)
  obtain ⟨rfl, rfl⟩ := hp
  refine m_if_eq F e_X10_yields_11 (fun _ => ?_) (fun q => absurd (by decide) q)
  refine m_iconst F (v := (-1)) (by decide) e_X10_yields_38 ?_
  exact m_iret F hQ e_X10_yields_39 (rfl)
set_option maxRecDepth 20000 in
theorem n_level (l : Launch) (V : VX) (N : Nat) (σ : Mem) (m : Nat) (x : Int32) (v : Int64) (hZ : MZ V σ m) : Ct l V yX10_level cX10_level 9 (some .int) 3 0 0 N σ [.ref m, .int x, .long v] (fun r _ => r = some (.int (-1))) := by
  refine Ct.of (by decide) (Nat.le_of_ble_eq_true rfl) [(0, .ref m), (1, .int x), (2, .long v)] rfl (fun X hX F hQ => ?_)
  obtain ⟨z0, z1, z2, z3, z4, z5, z6, z7, z8, z9, z10, z11, z12, z13, z14, z15, z16, z17, z18, z19, z20, z21, z22⟩ := hZ
  refine m_aload_n F rfl e_X10_level_0 ?_
  refine m_iconst F (v := 0) (by decide) e_X10_level_1 ?_
  refine m_put F e_X10_level_2 fp_X10_91 z0 rfl rfl (Nat.le_of_ble_eq_true rfl) (fs' := [.int 0, .ref (m + 1), .int 0, .ref (m + 2), .ref (m + 3), .ref (m + 4), .ref (m + 5), .ref (m + 6), .ref (m + 7), .ref (m + 8), .ref (m + 9), .ref (m + 10), .ref (m + 11), .ref (m + 12), .ref (m + 13), .ref (m + 14), .ref (m + 15), .int 0, .int 0, .int 0, .int 0, .int 0, .int 0, .int 0, .int 0, .int 0, .int (-1), .ref (m + 16), .ref (m + 17), .ref (m + 18), .ref (m + 19), .ref (m + 20), .int 0, .int 0, .ref (m + 21), .ref (m + 22), .int 0]) rfl (up_self z0).symm ?_
  refine m_aload_n F rfl e_X10_level_5 ?_
  refine m_iload_n F rfl e_X10_level_6 ?_
  refine m_callV F e_X10_level_7 (k_isLease0 (x_l X) V _ _ m 0 0 0 0 0 0 0 0 0 0 0 (-1) 0 0 0 x z0 z2 ) cb_X10_isLease ml_X10_292 im_X10_isLease se_X10_isLease z0 rfl rfl (rest := []) rfl (Nat.le_of_ble_eq_true rfl) ⟨Nat.le_of_ble_eq_true rfl, Nat.le_of_ble_eq_true rfl⟩ ⟨Nat.le_of_ble_eq_true rfl, Nat.le_of_ble_eq_true rfl⟩ (k' := 0) (z' := 0) (N' := N) rfl rfl rfl (fun r τ hp => ?_)
  obtain ⟨rfl, rfl⟩ := hp
  refine m_if_eq F e_X10_level_10 (fun _ => ?_) (fun q => absurd (by decide) q)
  refine m_iconst F (v := (-1)) (by decide) e_X10_level_27 ?_
  exact m_iret F hQ e_X10_level_28 (rfl)
set_option maxRecDepth 20000 in
theorem n_undo (l : Launch) (V : VX) (N : Nat) (σ : Mem) (m : Nat)  (hZ : MZ V σ m) : Ct l V yX10_undo cX10_undo 1 (some .int) 3 0 0 N σ [.ref m] (fun r _ => r = some (.int (-1))) := by
  refine Ct.of (by decide) (Nat.le_of_ble_eq_true rfl) [(0, .ref m)] rfl (fun X hX F hQ => ?_)
  obtain ⟨z0, z1, z2, z3, z4, z5, z6, z7, z8, z9, z10, z11, z12, z13, z14, z15, z16, z17, z18, z19, z20, z21, z22⟩ := hZ
  refine m_aload_n F rfl e_X10_undo_0 ?_
  refine m_iconst F (v := 0) (by decide) e_X10_undo_1 ?_
  refine m_put F e_X10_undo_2 fp_X10_91 z0 rfl rfl (Nat.le_of_ble_eq_true rfl) (fs' := [.int 0, .ref (m + 1), .int 0, .ref (m + 2), .ref (m + 3), .ref (m + 4), .ref (m + 5), .ref (m + 6), .ref (m + 7), .ref (m + 8), .ref (m + 9), .ref (m + 10), .ref (m + 11), .ref (m + 12), .ref (m + 13), .ref (m + 14), .ref (m + 15), .int 0, .int 0, .int 0, .int 0, .int 0, .int 0, .int 0, .int 0, .int 0, .int (-1), .ref (m + 16), .ref (m + 17), .ref (m + 18), .ref (m + 19), .ref (m + 20), .int 0, .int 0, .ref (m + 21), .ref (m + 22), .int 0]) rfl (up_self z0).symm ?_
  refine m_aload_n F rfl e_X10_undo_5 ?_
  refine m_get F e_X10_undo_6 fl_X10_214 z0 rfl ?_
  refine m_if_ne F e_X10_undo_9 (fun q => absurd (by decide) q) (fun _ => ?_)
  refine m_iconst F (v := (-1)) (by decide) e_X10_undo_12 ?_
  exact m_iret F hQ e_X10_undo_13 (rfl)
set_option maxRecDepth 20000 in
theorem n_back (l : Launch) (V : VX) (N : Nat) (σ : Mem) (m : Nat)  (hZ : MZ V σ m) : Ct l V yX10_back cX10_back 1 (some .int) 3 0 0 N σ [.ref m] (fun r _ => r = some (.int (-1))) := by
  refine Ct.of (by decide) (Nat.le_of_ble_eq_true rfl) [(0, .ref m)] rfl (fun X hX F hQ => ?_)
  obtain ⟨z0, z1, z2, z3, z4, z5, z6, z7, z8, z9, z10, z11, z12, z13, z14, z15, z16, z17, z18, z19, z20, z21, z22⟩ := hZ
  refine m_aload_n F rfl e_X10_back_0 ?_
  refine m_iconst F (v := 0) (by decide) e_X10_back_1 ?_
  refine m_put F e_X10_back_2 fp_X10_91 z0 rfl rfl (Nat.le_of_ble_eq_true rfl) (fs' := [.int 0, .ref (m + 1), .int 0, .ref (m + 2), .ref (m + 3), .ref (m + 4), .ref (m + 5), .ref (m + 6), .ref (m + 7), .ref (m + 8), .ref (m + 9), .ref (m + 10), .ref (m + 11), .ref (m + 12), .ref (m + 13), .ref (m + 14), .ref (m + 15), .int 0, .int 0, .int 0, .int 0, .int 0, .int 0, .int 0, .int 0, .int 0, .int (-1), .ref (m + 16), .ref (m + 17), .ref (m + 18), .ref (m + 19), .ref (m + 20), .int 0, .int 0, .ref (m + 21), .ref (m + 22), .int 0]) rfl (up_self z0).symm ?_
  refine m_aload_n F rfl e_X10_back_5 ?_
  refine m_get F e_X10_back_6 fl_X10_217 z0 rfl ?_
  refine m_if_ne F e_X10_back_9 (fun q => absurd (by decide) q) (fun _ => ?_)
  refine m_iconst F (v := (-1)) (by decide) e_X10_back_12 ?_
  exact m_iret F hQ e_X10_back_13 (rfl)
set_option maxRecDepth 20000 in
theorem n_heaviest (l : Launch) (V : VX) (N : Nat) (σ : Mem) (m : Nat)  (hZ : MZ V σ m) : Ct l V yX10_heaviest cX10_heaviest 3 (some .int) 3 0 0 N σ [.ref m] (fun r _ => r = some (.int (-2))) := by
  refine Ct.of (by decide) (Nat.le_of_ble_eq_true rfl) [(0, .ref m)] rfl (fun X hX F hQ => ?_)
  obtain ⟨z0, z1, z2, z3, z4, z5, z6, z7, z8, z9, z10, z11, z12, z13, z14, z15, z16, z17, z18, z19, z20, z21, z22⟩ := hZ
  refine m_aload_n F rfl e_X10_heaviest_0 ?_
  refine m_iconst F (v := 0) (by decide) e_X10_heaviest_1 ?_
  refine m_put F e_X10_heaviest_2 fp_X10_91 z0 rfl rfl (Nat.le_of_ble_eq_true rfl) (fs' := [.int 0, .ref (m + 1), .int 0, .ref (m + 2), .ref (m + 3), .ref (m + 4), .ref (m + 5), .ref (m + 6), .ref (m + 7), .ref (m + 8), .ref (m + 9), .ref (m + 10), .ref (m + 11), .ref (m + 12), .ref (m + 13), .ref (m + 14), .ref (m + 15), .int 0, .int 0, .int 0, .int 0, .int 0, .int 0, .int 0, .int 0, .int 0, .int (-1), .ref (m + 16), .ref (m + 17), .ref (m + 18), .ref (m + 19), .ref (m + 20), .int 0, .int 0, .ref (m + 21), .ref (m + 22), .int 0]) rfl (up_self z0).symm ?_
  refine m_bipush F (v := (-2)) (by decide) e_X10_heaviest_5 ?_
  refine m_istore_n F (lv' := [(1, .int (-2)), (0, .ref m)]) e_X10_heaviest_7 (by decide) rfl ?_
  refine m_iconst F (v := 0) (by decide) e_X10_heaviest_8 ?_
  refine m_istore_n F (lv' := [(2, .int 0), (1, .int (-2)), (0, .ref m)]) e_X10_heaviest_9 (by decide) rfl ?_
  refine m_iload_n F rfl e_X10_heaviest_10 ?_
  refine m_aload_n F rfl e_X10_heaviest_11 ?_
  refine m_callV F e_X10_heaviest_12 (k_leases0 (x_l X) V _ _ m 0 0 0 0 0 0 0 0 0 0 0 (-1) 0 0 0  z0 z2 ) cb_X10_leases ml_X10_221 im_X10_leases se_X10_leases z0 rfl rfl (rest := [.int 0]) rfl (Nat.le_of_ble_eq_true rfl) ⟨Nat.le_of_ble_eq_true rfl, Nat.le_of_ble_eq_true rfl⟩ ⟨Nat.le_of_ble_eq_true rfl, Nat.le_of_ble_eq_true rfl⟩ (k' := 0) (z' := 0) (N' := N) rfl rfl rfl (fun r τ hp => ?_)
  obtain ⟨rfl, rfl⟩ := hp
  refine m_icmp_ge F e_X10_heaviest_15 (fun _ => ?_) (fun q => absurd (by decide) q)
  refine m_iload_n F rfl e_X10_heaviest_87 ?_
  exact m_iret F hQ e_X10_heaviest_88 (rfl)
set_option maxRecDepth 20000 in
theorem n_keep (l : Launch) (V : VX) (N : Nat) (σ : Mem) (m : Nat)  (hZ : MZ V σ m) : Ct l V yX10_keep cX10_keep 1 (some .int) 3 0 0 N σ [.ref m] (fun r _ => r = some (.int 0)) := by
  refine Ct.of (by decide) (Nat.le_of_ble_eq_true rfl) [(0, .ref m)] rfl (fun X hX F hQ => ?_)
  obtain ⟨z0, z1, z2, z3, z4, z5, z6, z7, z8, z9, z10, z11, z12, z13, z14, z15, z16, z17, z18, z19, z20, z21, z22⟩ := hZ
  refine m_aload_n F rfl e_X10_keep_0 ?_
  refine m_iconst F (v := 0) (by decide) e_X10_keep_1 ?_
  refine m_put F e_X10_keep_2 fp_X10_91 z0 rfl rfl (Nat.le_of_ble_eq_true rfl) (fs' := [.int 0, .ref (m + 1), .int 0, .ref (m + 2), .ref (m + 3), .ref (m + 4), .ref (m + 5), .ref (m + 6), .ref (m + 7), .ref (m + 8), .ref (m + 9), .ref (m + 10), .ref (m + 11), .ref (m + 12), .ref (m + 13), .ref (m + 14), .ref (m + 15), .int 0, .int 0, .int 0, .int 0, .int 0, .int 0, .int 0, .int 0, .int 0, .int (-1), .ref (m + 16), .ref (m + 17), .ref (m + 18), .ref (m + 19), .ref (m + 20), .int 0, .int 0, .ref (m + 21), .ref (m + 22), .int 0]) rfl (up_self z0).symm ?_
  refine m_aload_n F rfl e_X10_keep_5 ?_
  refine m_get F e_X10_keep_6 fl_X10_59 z0 rfl ?_
  refine m_iconst F (v := 0) (by decide) e_X10_keep_9 ?_
  refine m_aload_n F rfl e_X10_keep_10 ?_
  refine m_get F e_X10_keep_11 fl_X10_69 z0 rfl ?_
  refine m_iconst F (v := 0) (by decide) e_X10_keep_14 ?_
  refine m_callS F e_X10_keep_15 (k_copies (x_l X) V _ _ (m + 16) (m + 19) 1113 1113 0 0 sZ (fun _ => 0) (by omega) (by omega) (by omega) (by omega) (by omega) z16 z19) cb_X10_copies ml_X10_230 sm_X10_copies rfl (rest := []) rfl (Nat.le_of_ble_eq_true rfl) ⟨Nat.le_of_ble_eq_true rfl, Nat.le_of_ble_eq_true rfl⟩ ⟨Nat.le_of_ble_eq_true rfl, Nat.le_of_ble_eq_true rfl⟩ (k' := 0) (z' := 0) (N' := N) rfl rfl rfl (fun r τ hp => ?_)
  obtain ⟨rfl, rfl⟩ := hp
  refine m_aload_n F rfl e_X10_keep_18 ?_
  refine m_iconst F (v := 1) (by decide) e_X10_keep_19 ?_
  refine m_put F e_X10_keep_20 fp_X10_217 (ru_ne (by omega) z0) (by decide) rfl (Nat.le_of_ble_eq_true rfl) (fs' := [.int 0, .ref (m + 1), .int 0, .ref (m + 2), .ref (m + 3), .ref (m + 4), .ref (m + 5), .ref (m + 6), .ref (m + 7), .ref (m + 8), .ref (m + 9), .ref (m + 10), .ref (m + 11), .ref (m + 12), .ref (m + 13), .ref (m + 14), .ref (m + 15), .int 0, .int 0, .int 0, .int 0, .int 0, .int 0, .int 0, .int 0, .int 0, .int (-1), .ref (m + 16), .ref (m + 17), .ref (m + 18), .ref (m + 19), .ref (m + 20), .int 0, .int 1, .ref (m + 21), .ref (m + 22), .int 0]) rfl rfl ?_
  refine m_aload_n F rfl e_X10_keep_23 ?_
  refine m_get F e_X10_keep_24 fl_X10_59 ru_eq rfl ?_
  refine m_sipush F (v := 744) (by decide) e_X10_keep_27 ?_
  refine m_lald F (j := 744) e_X10_keep_30 (ru_ne (by omega) (ru_ne (by omega) z16)) (by decide) (by unfold vp_in; decide) ?_
  refine Wm.toplE (w := 0) (sZ_hi (by omega)) ?_
  refine m_l2i F e_X10_keep_31 ?_
  refine Wm.topE (w := 0) (by decide) ?_
  exact m_iret F hQ e_X10_keep_32 (rfl)
set_option maxRecDepth 20000 in
theorem n_lease (l : Launch) (V : VX) (N : Nat) (σ : Mem) (m : Nat) (x y : Int32) (hZ : MZ V σ m) : Ct l V yX10_lease cX10_lease 4 (some .int) 3 0 0 N σ [.ref m, .int x, .int y] (fun r τ => r = some (.int 0) ∧ τ m = some (ob 8 [.int 1, .ref (m + 1), .int 0, .ref (m + 2), .ref (m + 3), .ref (m + 4), .ref (m + 5), .ref (m + 6), .ref (m + 7), .ref (m + 8), .ref (m + 9), .ref (m + 10), .ref (m + 11), .ref (m + 12), .ref (m + 13), .ref (m + 14), .ref (m + 15), .int 0, .int 0, .int 0, .int 0, .int 0, .int 0, .int 0, .int 0, .int 0, .int (-1), .ref (m + 16), .ref (m + 17), .ref (m + 18), .ref (m + 19), .ref (m + 20), .int 0, .int 0, .ref (m + 21), .ref (m + 22), .int 0])) := by
  refine Ct.of (by decide) (Nat.le_of_ble_eq_true rfl) [(0, .ref m), (1, .int x), (2, .int y)] rfl (fun X hX F hQ => ?_)
  obtain ⟨z0, z1, z2, z3, z4, z5, z6, z7, z8, z9, z10, z11, z12, z13, z14, z15, z16, z17, z18, z19, z20, z21, z22⟩ := hZ
  refine m_aload_n F rfl e_X10_lease_0 ?_
  refine m_iconst F (v := 0) (by decide) e_X10_lease_1 ?_
  refine m_put F e_X10_lease_2 fp_X10_91 z0 rfl rfl (Nat.le_of_ble_eq_true rfl) (fs' := [.int 0, .ref (m + 1), .int 0, .ref (m + 2), .ref (m + 3), .ref (m + 4), .ref (m + 5), .ref (m + 6), .ref (m + 7), .ref (m + 8), .ref (m + 9), .ref (m + 10), .ref (m + 11), .ref (m + 12), .ref (m + 13), .ref (m + 14), .ref (m + 15), .int 0, .int 0, .int 0, .int 0, .int 0, .int 0, .int 0, .int 0, .int 0, .int (-1), .ref (m + 16), .ref (m + 17), .ref (m + 18), .ref (m + 19), .ref (m + 20), .int 0, .int 0, .ref (m + 21), .ref (m + 22), .int 0]) rfl (up_self z0).symm ?_
  refine m_aload_n F rfl e_X10_lease_5 ?_
  refine m_iload_n F rfl e_X10_lease_6 ?_
  refine m_callV F e_X10_lease_7 (k_isLease0 (x_l X) V _ _ m 0 0 0 0 0 0 0 0 0 0 0 (-1) 0 0 0 x z0 z2 ) cb_X10_isLease ml_X10_292 im_X10_isLease se_X10_isLease z0 rfl rfl (rest := []) rfl (Nat.le_of_ble_eq_true rfl) ⟨Nat.le_of_ble_eq_true rfl, Nat.le_of_ble_eq_true rfl⟩ ⟨Nat.le_of_ble_eq_true rfl, Nat.le_of_ble_eq_true rfl⟩ (k' := 0) (z' := 0) (N' := N) rfl rfl rfl (fun r τ hp => ?_)
  obtain ⟨rfl, rfl⟩ := hp
  refine m_if_ne F e_X10_lease_10 (fun q => absurd (by decide) q) (fun _ => ?_)
  refine m_aload_n F rfl e_X10_lease_13 ?_
  refine m_iconst F (v := 1) (by decide) e_X10_lease_14 ?_
  refine m_put F e_X10_lease_15 fp_X10_91 z0 rfl rfl (Nat.le_of_ble_eq_true rfl) (fs' := [.int 1, .ref (m + 1), .int 0, .ref (m + 2), .ref (m + 3), .ref (m + 4), .ref (m + 5), .ref (m + 6), .ref (m + 7), .ref (m + 8), .ref (m + 9), .ref (m + 10), .ref (m + 11), .ref (m + 12), .ref (m + 13), .ref (m + 14), .ref (m + 15), .int 0, .int 0, .int 0, .int 0, .int 0, .int 0, .int 0, .int 0, .int 0, .int (-1), .ref (m + 16), .ref (m + 17), .ref (m + 18), .ref (m + 19), .ref (m + 20), .int 0, .int 0, .ref (m + 21), .ref (m + 22), .int 0]) rfl rfl ?_
  refine m_iconst F (v := 0) (by decide) e_X10_lease_18 ?_
  exact m_iret F hQ e_X10_lease_19 (⟨rfl, ru_eq⟩)
set_option maxRecDepth 20000 in
theorem n_thrown (l : Launch) (V : VX) (N : Nat) (σ : Mem) (m : Nat) (t : Int32) (h0 : σ m = some (ob 8 [.int t, .ref (m + 1), .int 0, .ref (m + 2), .ref (m + 3), .ref (m + 4), .ref (m + 5), .ref (m + 6), .ref (m + 7), .ref (m + 8), .ref (m + 9), .ref (m + 10), .ref (m + 11), .ref (m + 12), .ref (m + 13), .ref (m + 14), .ref (m + 15), .int 0, .int 0, .int 0, .int 0, .int 0, .int 0, .int 0, .int 0, .int 0, .int (-1), .ref (m + 16), .ref (m + 17), .ref (m + 18), .ref (m + 19), .ref (m + 20), .int 0, .int 0, .ref (m + 21), .ref (m + 22), .int 0])) : Ct l V yX10_thrown cX10_thrown 1 (some .int) 0 0 0 N σ [.ref m] (fun r _ => r = some (.int t)) := by
  refine Ct.of (by decide) (Nat.le_of_ble_eq_true rfl) [(0, .ref m)] rfl (fun X hX F hQ => ?_)
  refine m_aload_n F rfl e_X10_thrown_0 ?_
  refine m_get F e_X10_thrown_1 fl_X10_91 h0 rfl ?_
  exact m_iret F hQ e_X10_thrown_4 (rfl)
set_option maxRecDepth 20000 in
theorem n_fault (l : Launch) (V : VX) (N : Nat) (σ : Mem) (m : Nat) (x : Int32) (hZ : MZ V σ m) : Ct l V yX10_fault cX10_fault 2 (some .int) 0 0 0 N σ [.ref m, .int x] (fun r _ => r = some (.int (if x = 0 then 0 else -1))) := by
  refine Ct.of (by decide) (Nat.le_of_ble_eq_true rfl) [(0, .ref m), (1, .int x)] rfl (fun X hX F hQ => ?_)
  obtain ⟨z0, z1, z2, z3, z4, z5, z6, z7, z8, z9, z10, z11, z12, z13, z14, z15, z16, z17, z18, z19, z20, z21, z22⟩ := hZ
  refine m_aload_n F rfl e_X10_fault_0 ?_
  refine m_iconst F (v := 0) (by decide) e_X10_fault_1 ?_
  refine m_put F e_X10_fault_2 fp_X10_91 z0 rfl rfl (Nat.le_of_ble_eq_true rfl) (fs' := [.int 0, .ref (m + 1), .int 0, .ref (m + 2), .ref (m + 3), .ref (m + 4), .ref (m + 5), .ref (m + 6), .ref (m + 7), .ref (m + 8), .ref (m + 9), .ref (m + 10), .ref (m + 11), .ref (m + 12), .ref (m + 13), .ref (m + 14), .ref (m + 15), .int 0, .int 0, .int 0, .int 0, .int 0, .int 0, .int 0, .int 0, .int 0, .int (-1), .ref (m + 16), .ref (m + 17), .ref (m + 18), .ref (m + 19), .ref (m + 20), .int 0, .int 0, .ref (m + 21), .ref (m + 22), .int 0]) rfl (up_self z0).symm ?_
  refine m_iload_n F rfl e_X10_fault_5 ?_
  refine m_if_ne F e_X10_fault_6 (fun q6 => ?_) (fun q6 => ?_)
  · refine m_iload_n F rfl e_X10_fault_16 ?_
    refine m_iconst F (v := 1) (by decide) e_X10_fault_17 ?_
    refine m_icmp_ne F e_X10_fault_18 (fun q18 => ?_) (fun q18 => ?_)
    · refine m_iconst F (v := (-1)) (by decide) e_X10_fault_28 ?_
      exact m_iret F hQ e_X10_fault_29 (by rw [if_neg q6])
    · refine m_aload_n F rfl e_X10_fault_21 ?_
      refine m_get F e_X10_fault_22 fl_X10_55 z0 rfl ?_
      refine m_goto F e_X10_fault_25 ?_
      exact m_iret F hQ e_X10_fault_29 (by rw [if_neg q6])
  · refine m_aload_n F rfl e_X10_fault_9 ?_
    refine m_get F e_X10_fault_10 fl_X10_211 z0 rfl ?_
    refine m_goto F e_X10_fault_13 ?_
    exact m_iret F hQ e_X10_fault_29 (by rw [if_pos q6])
set_option maxRecDepth 20000 in
theorem n_index (l : Launch) (V : VX) (N : Nat) (σ : Mem) (m : Nat) (x : Int32) (hZ : MZ V σ m) : Ct l V yX10_index cX10_index 2 (some .int) 0 0 0 N σ [.ref m, .int x] (fun r _ => r = some (.int (if x < 0 ∨ 99 < x then -1 else 1000))) := by
  refine Ct.of (by decide) (Nat.le_of_ble_eq_true rfl) [(0, .ref m), (1, .int x)] rfl (fun X hX F hQ => ?_)
  obtain ⟨z0, z1, z2, z3, z4, z5, z6, z7, z8, z9, z10, z11, z12, z13, z14, z15, z16, z17, z18, z19, z20, z21, z22⟩ := hZ
  refine m_aload_n F rfl e_X10_index_0 ?_
  refine m_iconst F (v := 0) (by decide) e_X10_index_1 ?_
  refine m_put F e_X10_index_2 fp_X10_91 z0 rfl rfl (Nat.le_of_ble_eq_true rfl) (fs' := [.int 0, .ref (m + 1), .int 0, .ref (m + 2), .ref (m + 3), .ref (m + 4), .ref (m + 5), .ref (m + 6), .ref (m + 7), .ref (m + 8), .ref (m + 9), .ref (m + 10), .ref (m + 11), .ref (m + 12), .ref (m + 13), .ref (m + 14), .ref (m + 15), .int 0, .int 0, .int 0, .int 0, .int 0, .int 0, .int 0, .int 0, .int 0, .int (-1), .ref (m + 16), .ref (m + 17), .ref (m + 18), .ref (m + 19), .ref (m + 20), .int 0, .int 0, .ref (m + 21), .ref (m + 22), .int 0]) rfl (up_self z0).symm ?_
  refine m_iload_n F rfl e_X10_index_5 ?_
  refine m_if_lt F e_X10_index_6 (fun q6 => ?_) (fun q6 => ?_)
  · refine m_iconst F (v := (-1)) (by decide) e_X10_index_29 ?_
    exact m_iret F hQ e_X10_index_30 (by rw [if_pos (Or.inl q6)])
  · refine m_iload_n F rfl e_X10_index_9 ?_
    refine m_bipush F (v := 99) (by decide) e_X10_index_10 ?_
    refine m_icmp_gt F e_X10_index_12 (fun q12 => ?_) (fun q12 => ?_)
    · refine m_iconst F (v := (-1)) (by decide) e_X10_index_29 ?_
      exact m_iret F hQ e_X10_index_30 (by rw [if_pos (Or.inr q12)])
    · obtain ⟨k, hk, ek⟩ := nI_of2 (x := x) (M := 99) (n := 99) (by decide) q6 (Int32.not_lt.mp q12)
      subst ek
      refine m_aload_n F rfl e_X10_index_15 ?_
      refine m_get F e_X10_index_16 fl_X10_59 z0 rfl ?_
      refine m_sipush F (v := 644) (by decide) e_X10_index_19 ?_
      refine m_iload_n F rfl e_X10_index_22 ?_
      refine m_iadd F e_X10_index_23 ?_
      refine Wm.topE (w := nI (644 + k)) (nI_add 644 k) ?_
      refine m_lald F (j := 644 + k) e_X10_index_24 z16 (nI_clamp (by omega)) (vp_in_nI (by omega) (by omega)) ?_
      refine Wm.toplE (w := 1000) (sZ_ix (by omega)) ?_
      refine m_l2i F e_X10_index_25 ?_
      refine Wm.topE (w := 1000) (by decide) ?_
      refine m_goto F e_X10_index_26 ?_
      exact m_iret F hQ e_X10_index_30 (by rw [if_neg (fun h => h.elim q6 q12)])
set_option maxRecDepth 20000 in
theorem n_account (l : Launch) (V : VX) (N : Nat) (σ : Mem) (m : Nat) (x : Int32) (hZ : MZ V σ m) : Ct l V yX10_account cX10_account 2 (some .long) 0 0 0 N σ [.ref m, .int x] (fun r _ => r = some (.long (if x < 0 ∨ 6 ≤ x then NOA else 0))) := by
  refine Ct.of (by decide) (Nat.le_of_ble_eq_true rfl) [(0, .ref m), (1, .int x)] rfl (fun X hX F hQ => ?_)
  obtain ⟨z0, z1, z2, z3, z4, z5, z6, z7, z8, z9, z10, z11, z12, z13, z14, z15, z16, z17, z18, z19, z20, z21, z22⟩ := hZ
  refine m_aload_n F rfl e_X10_account_0 ?_
  refine m_iconst F (v := 0) (by decide) e_X10_account_1 ?_
  refine m_put F e_X10_account_2 fp_X10_91 z0 rfl rfl (Nat.le_of_ble_eq_true rfl) (fs' := [.int 0, .ref (m + 1), .int 0, .ref (m + 2), .ref (m + 3), .ref (m + 4), .ref (m + 5), .ref (m + 6), .ref (m + 7), .ref (m + 8), .ref (m + 9), .ref (m + 10), .ref (m + 11), .ref (m + 12), .ref (m + 13), .ref (m + 14), .ref (m + 15), .int 0, .int 0, .int 0, .int 0, .int 0, .int 0, .int 0, .int 0, .int 0, .int (-1), .ref (m + 16), .ref (m + 17), .ref (m + 18), .ref (m + 19), .ref (m + 20), .int 0, .int 0, .ref (m + 21), .ref (m + 22), .int 0]) rfl (up_self z0).symm ?_
  refine m_iload_n F rfl e_X10_account_5 ?_
  refine m_if_lt F e_X10_account_6 (fun q6 => ?_) (fun q6 => ?_)
  · refine m_ldc2 F kc_X10_299 e_X10_account_28 ?_
    exact m_lret F hQ e_X10_account_31 (by rw [if_pos (Or.inl q6)]; rfl)
  · refine m_iload_n F rfl e_X10_account_9 ?_
    refine m_bipush F (v := 6) (by decide) e_X10_account_10 ?_
    refine m_icmp_ge F e_X10_account_12 (fun q12 => ?_) (fun q12 => ?_)
    · refine m_ldc2 F kc_X10_299 e_X10_account_28 ?_
      exact m_lret F hQ e_X10_account_31 (by rw [if_pos (Or.inr q12)]; rfl)
    · obtain ⟨k, hk, ek⟩ := nI_of2 (x := x) (M := 6) (n := 6) (by decide) q6 (Int32.le_of_lt (Int32.not_le.mp q12))
      subst ek
      have hk6 : k < 6 := by have hh := mt (nI_leI (a := 6) (b := k) (by omega) (by omega)).mpr q12; omega
      refine m_aload_n F rfl e_X10_account_15 ?_
      refine m_get F e_X10_account_16 fl_X10_59 z0 rfl ?_
      refine m_sipush F (v := 745) (by decide) e_X10_account_19 ?_
      refine m_iload_n F rfl e_X10_account_22 ?_
      refine m_iadd F e_X10_account_23 ?_
      refine Wm.topE (w := nI (745 + k)) (nI_add 745 k) ?_
      refine m_lald F (j := 745 + k) e_X10_account_24 z16 (nI_clamp (by omega)) (vp_in_nI (by omega) (by omega)) ?_
      refine Wm.toplE (w := 0) (sZ_hi (by omega)) ?_
      refine m_goto F e_X10_account_25 ?_
      exact m_lret F hQ e_X10_account_31 (by rw [if_neg (fun h => h.elim q6 q12)])
set_option maxRecDepth 20000 in
theorem n_entry (l : Launch) (V : VX) (N : Nat) (σ : Mem) (m : Nat) (x y : Int32) (hZ : MZ V σ m) : Ct l V yX10_entry_ cX10_entry_ 3 (some .long) 0 0 0 N σ [.ref m, .int x, .int y] (fun r _ => r = some (.long NOA)) := by
  refine Ct.of (by decide) (Nat.le_of_ble_eq_true rfl) [(0, .ref m), (1, .int x), (2, .int y)] rfl (fun X hX F hQ => ?_)
  obtain ⟨z0, z1, z2, z3, z4, z5, z6, z7, z8, z9, z10, z11, z12, z13, z14, z15, z16, z17, z18, z19, z20, z21, z22⟩ := hZ
  refine m_aload_n F rfl e_X10_entry__0 ?_
  refine m_iconst F (v := 0) (by decide) e_X10_entry__1 ?_
  refine m_put F e_X10_entry__2 fp_X10_91 z0 rfl rfl (Nat.le_of_ble_eq_true rfl) (fs' := [.int 0, .ref (m + 1), .int 0, .ref (m + 2), .ref (m + 3), .ref (m + 4), .ref (m + 5), .ref (m + 6), .ref (m + 7), .ref (m + 8), .ref (m + 9), .ref (m + 10), .ref (m + 11), .ref (m + 12), .ref (m + 13), .ref (m + 14), .ref (m + 15), .int 0, .int 0, .int 0, .int 0, .int 0, .int 0, .int 0, .int 0, .int 0, .int (-1), .ref (m + 16), .ref (m + 17), .ref (m + 18), .ref (m + 19), .ref (m + 20), .int 0, .int 0, .ref (m + 21), .ref (m + 22), .int 0]) rfl (up_self z0).symm ?_
  refine m_iload_n F rfl e_X10_entry__5 ?_
  refine m_if_lt F e_X10_entry__6 (fun q6 => ?_) (fun q6 => ?_)
  · refine m_ldc2 F kc_X10_299 e_X10_entry__23 ?_
    exact m_lret F hQ e_X10_entry__26 (rfl)
  · refine m_iload_n F rfl e_X10_entry__9 ?_
    refine m_i2l F e_X10_entry__10 ?_
    refine m_aload_n F rfl e_X10_entry__11 ?_
    refine m_get F e_X10_entry__12 fl_X10_59 z0 rfl ?_
    refine m_sipush F (v := 751) (by decide) e_X10_entry__15 ?_
    refine m_lald F (j := 751) e_X10_entry__18 z16 (by decide) (by unfold vp_in; decide) ?_
    refine Wm.toplE (w := 0) (sZ_hi (by omega)) ?_
    refine m_lcmp F e_X10_entry__19 ?_
    refine m_if_lt F e_X10_entry__20 (fun q20 => absurd q20 (fun h => absurd ((lg_cmp_lt _ _).mp h) (Int64.not_lt.mpr (i2l_nn (Int32.not_lt.mp q6))))) (fun q20 => ?_)
    refine m_ldc2 F kc_X10_299 e_X10_entry__23 ?_
    exact m_lret F hQ e_X10_entry__26 (rfl)
set_option maxRecDepth 20000 in
theorem n_sum (l : Launch) (V : VX) (N : Nat) (σ : Mem) (m : Nat) (x y : Int32) (hZ : MZ V σ m) : Ct l V yX10_sum cX10_sum 6 (some .long) 0 0 0 N σ [.ref m, .int x, .int y] (fun r _ => r = some (.long (if x < 0 ∨ 5 < x ∨ y < 0 ∨ 5 < y then NOA else 0))) := by
  refine Ct.of (by decide) (Nat.le_of_ble_eq_true rfl) [(0, .ref m), (1, .int x), (2, .int y)] rfl (fun X hX F hQ => ?_)
  obtain ⟨z0, z1, z2, z3, z4, z5, z6, z7, z8, z9, z10, z11, z12, z13, z14, z15, z16, z17, z18, z19, z20, z21, z22⟩ := hZ
  refine m_aload_n F rfl e_X10_sum_0 ?_
  refine m_iconst F (v := 0) (by decide) e_X10_sum_1 ?_
  refine m_put F e_X10_sum_2 fp_X10_91 z0 rfl rfl (Nat.le_of_ble_eq_true rfl) (fs' := [.int 0, .ref (m + 1), .int 0, .ref (m + 2), .ref (m + 3), .ref (m + 4), .ref (m + 5), .ref (m + 6), .ref (m + 7), .ref (m + 8), .ref (m + 9), .ref (m + 10), .ref (m + 11), .ref (m + 12), .ref (m + 13), .ref (m + 14), .ref (m + 15), .int 0, .int 0, .int 0, .int 0, .int 0, .int 0, .int 0, .int 0, .int 0, .int (-1), .ref (m + 16), .ref (m + 17), .ref (m + 18), .ref (m + 19), .ref (m + 20), .int 0, .int 0, .ref (m + 21), .ref (m + 22), .int 0]) rfl (up_self z0).symm ?_
  refine m_iload_n F rfl e_X10_sum_5 ?_
  refine m_if_lt F e_X10_sum_6 (fun q6 => ?_) (fun q6 => ?_)
  · refine m_ldc2 F kc_X10_299 e_X10_sum_23 ?_
    exact m_lret F hQ e_X10_sum_26 (by rw [if_pos (Or.inl q6)]; rfl)
  · refine m_iload_n F rfl e_X10_sum_9 ?_
    refine m_iconst F (v := 5) (by decide) e_X10_sum_10 ?_
    refine m_icmp_gt F e_X10_sum_11 (fun q11 => ?_) (fun q11 => ?_)
    · refine m_ldc2 F kc_X10_299 e_X10_sum_23 ?_
      exact m_lret F hQ e_X10_sum_26 (by rw [if_pos (Or.inr (Or.inl q11))]; rfl)
    · refine m_iload_n F rfl e_X10_sum_14 ?_
      refine m_if_lt F e_X10_sum_15 (fun q15 => ?_) (fun q15 => ?_)
      · refine m_ldc2 F kc_X10_299 e_X10_sum_23 ?_
        exact m_lret F hQ e_X10_sum_26 (by rw [if_pos (Or.inr (Or.inr (Or.inl q15)))]; rfl)
      · refine m_iload_n F rfl e_X10_sum_18 ?_
        refine m_iconst F (v := 5) (by decide) e_X10_sum_19 ?_
        refine m_icmp_le F e_X10_sum_20 (fun q20 => ?_) (fun q20 => ?_)
        · refine m_lconst F (v := 0) (by decide) e_X10_sum_27 ?_
          refine m_lstore_n F (lv' := [(3, .long 0), (0, .ref m), (1, .int x), (2, .int y)]) e_X10_sum_28 (by decide) rfl ?_
          refine m_iconst F (v := 0) (by decide) e_X10_sum_29 ?_
          refine m_istore F (lv' := [(5, .int 0), (3, .long 0), (0, .ref m), (1, .int x), (2, .int y)]) e_X10_sum_30 (by decide) rfl ?_
          refine m_iload F rfl e_X10_sum_32 ?_
          refine m_i2l F e_X10_sum_34 ?_
          refine Wm.toplE (w := 0) (by decide) ?_
          refine m_aload_n F rfl e_X10_sum_35 ?_
          refine m_get F e_X10_sum_36 fl_X10_59 z0 rfl ?_
          refine m_sipush F (v := 751) (by decide) e_X10_sum_39 ?_
          refine m_lald F (j := 751) e_X10_sum_42 z16 (by decide) (by unfold vp_in; decide) ?_
          refine Wm.toplE (w := 0) (sZ_hi (by omega)) ?_
          refine m_lcmp F e_X10_sum_43 ?_
          refine Wm.topE (w := 0) (by decide) ?_
          refine m_if_ge F e_X10_sum_44 (fun _ => ?_) (fun q => absurd (by decide) q)
          refine m_lload_n F rfl e_X10_sum_94 ?_
          exact m_lret F hQ e_X10_sum_95 (by rw [if_neg (fun h => h.elim q6 (fun h => h.elim q11 (fun h => h.elim q15 (fun h => absurd q20 (Int32.not_le.mpr h)))))])
        · refine m_ldc2 F kc_X10_299 e_X10_sum_23 ?_
          exact m_lret F hQ e_X10_sum_26 (by rw [if_pos (Or.inr (Or.inr (Or.inr (Int32.not_le.mp q20))))]; rfl)
set_option maxRecDepth 20000 in
theorem n_count (l : Launch) (V : VX) (N : Nat) (σ : Mem) (m : Nat) (x : Int32) (hZ : MZ V σ m) : Ct l V yX10_count cX10_count 2 (some .int) 2 0 0 N σ [.ref m, .int x] (fun r _ => r = some (.int (if x.toInt < 0 ∨ 7 < x.toInt then -1 else 0))) := by
  refine Ct.of (by decide) (Nat.le_of_ble_eq_true rfl) [(0, .ref m), (1, .int x)] rfl (fun X hX F hQ => ?_)
  obtain ⟨z0, z1, z2, z3, z4, z5, z6, z7, z8, z9, z10, z11, z12, z13, z14, z15, z16, z17, z18, z19, z20, z21, z22⟩ := hZ
  refine m_aload_n F rfl e_X10_count_0 ?_
  refine m_iconst F (v := 0) (by decide) e_X10_count_1 ?_
  refine m_put F e_X10_count_2 fp_X10_91 z0 rfl rfl (Nat.le_of_ble_eq_true rfl) (fs' := [.int 0, .ref (m + 1), .int 0, .ref (m + 2), .ref (m + 3), .ref (m + 4), .ref (m + 5), .ref (m + 6), .ref (m + 7), .ref (m + 8), .ref (m + 9), .ref (m + 10), .ref (m + 11), .ref (m + 12), .ref (m + 13), .ref (m + 14), .ref (m + 15), .int 0, .int 0, .int 0, .int 0, .int 0, .int 0, .int 0, .int 0, .int 0, .int (-1), .ref (m + 16), .ref (m + 17), .ref (m + 18), .ref (m + 19), .ref (m + 20), .int 0, .int 0, .ref (m + 21), .ref (m + 22), .int 0]) rfl (up_self z0).symm ?_
  refine m_iload_n F rfl e_X10_count_5 ?_
  by_cases hlo : x.toInt < 0
  · refine m_tableOut F e_X10_count_6 (Or.inl hlo) (tgt := 109) (by decide) ?_
    refine m_iconst F (v := (-1)) (by decide) e_X10_count_109 ?_
    exact m_iret F hQ e_X10_count_110 (by rw [if_pos (Or.inl hlo)])
  by_cases hhi : 7 < x.toInt
  · refine m_tableOut F e_X10_count_6 (Or.inr hhi) (tgt := 109) (by decide) ?_
    refine m_iconst F (v := (-1)) (by decide) e_X10_count_109 ?_
    exact m_iret F hQ e_X10_count_110 (by rw [if_pos (Or.inr hhi)])
  have hx : x.toInt = 0 ∨ x.toInt = 1 ∨ x.toInt = 2 ∨ x.toInt = 3 ∨ x.toInt = 4 ∨ x.toInt = 5 ∨ x.toInt = 6 ∨ x.toInt = 7 := by omega
  rcases hx with hx | hx | hx | hx | hx | hx | hx | hx
  · refine m_tableIn F e_X10_count_6 hlo hhi (off := 46) (by rw [hx]; rfl) (tgt := 52) (by decide) ?_
    refine m_aload_n F rfl e_X10_count_52 ?_
    refine m_callV F e_X10_count_53 (k_leases0 (x_l X) V _ _ m 0 0 0 0 0 0 0 0 0 0 0 (-1) 0 0 0  z0 z2 ) cb_X10_leases ml_X10_221 im_X10_leases se_X10_leases z0 rfl rfl (rest := []) rfl (Nat.le_of_ble_eq_true rfl) ⟨Nat.le_of_ble_eq_true rfl, Nat.le_of_ble_eq_true rfl⟩ ⟨Nat.le_of_ble_eq_true rfl, Nat.le_of_ble_eq_true rfl⟩ (k' := 0) (z' := 0) (N' := N) rfl rfl rfl (fun r τ hp => ?_)
    obtain ⟨rfl, rfl⟩ := hp
    exact m_iret F hQ e_X10_count_56 (by rw [if_neg (fun h => h.elim hlo hhi)])
  · refine m_tableIn F e_X10_count_6 hlo hhi (off := 51) (by rw [hx]; rfl) (tgt := 57) (by decide) ?_
    refine m_aload_n F rfl e_X10_count_57 ?_
    refine m_get F e_X10_count_58 fl_X10_13 z0 rfl ?_
    refine m_iconst F (v := 3) (by decide) e_X10_count_61 ?_
    refine m_iald F (j := 3) e_X10_count_62 z2 (by decide) (by unfold vp_in; decide) ?_
    refine Wm.topE (w := 0) (rfl) ?_
    exact m_iret F hQ e_X10_count_63 (by rw [if_neg (fun h => h.elim hlo hhi)])
  · refine m_tableIn F e_X10_count_6 hlo hhi (off := 58) (by rw [hx]; rfl) (tgt := 64) (by decide) ?_
    refine m_aload_n F rfl e_X10_count_64 ?_
    refine m_get F e_X10_count_65 fl_X10_59 z0 rfl ?_
    refine m_sipush F (v := 744) (by decide) e_X10_count_68 ?_
    refine m_lald F (j := 744) e_X10_count_71 z16 (by decide) (by unfold vp_in; decide) ?_
    refine Wm.toplE (w := 0) (sZ_hi (by omega)) ?_
    refine m_l2i F e_X10_count_72 ?_
    refine Wm.topE (w := 0) (by decide) ?_
    exact m_iret F hQ e_X10_count_73 (by rw [if_neg (fun h => h.elim hlo hhi)])
  · refine m_tableIn F e_X10_count_6 hlo hhi (off := 68) (by rw [hx]; rfl) (tgt := 74) (by decide) ?_
    refine m_aload_n F rfl e_X10_count_74 ?_
    refine m_get F e_X10_count_75 fl_X10_59 z0 rfl ?_
    refine m_sipush F (v := 751) (by decide) e_X10_count_78 ?_
    refine m_lald F (j := 751) e_X10_count_81 z16 (by decide) (by unfold vp_in; decide) ?_
    refine Wm.toplE (w := 0) (sZ_hi (by omega)) ?_
    refine m_l2i F e_X10_count_82 ?_
    refine Wm.topE (w := 0) (by decide) ?_
    exact m_iret F hQ e_X10_count_83 (by rw [if_neg (fun h => h.elim hlo hhi)])
  · refine m_tableIn F e_X10_count_6 hlo hhi (off := 78) (by rw [hx]; rfl) (tgt := 84) (by decide) ?_
    refine m_aload_n F rfl e_X10_count_84 ?_
    refine m_get F e_X10_count_85 fl_X10_59 z0 rfl ?_
    refine m_sipush F (v := 752) (by decide) e_X10_count_88 ?_
    refine m_lald F (j := 752) e_X10_count_91 z16 (by decide) (by unfold vp_in; decide) ?_
    refine Wm.toplE (w := 0) (sZ_hi (by omega)) ?_
    refine m_l2i F e_X10_count_92 ?_
    refine Wm.topE (w := 0) (by decide) ?_
    exact m_iret F hQ e_X10_count_93 (by rw [if_neg (fun h => h.elim hlo hhi)])
  · refine m_tableIn F e_X10_count_6 hlo hhi (off := 88) (by rw [hx]; rfl) (tgt := 94) (by decide) ?_
    refine m_aload_n F rfl e_X10_count_94 ?_
    refine m_callV F e_X10_count_95 (k_running0 (x_l X) V _ _ m 0 0 0 0 0 0 0 0 0 0 0 (-1) 0 0 0  z0 z2 ) cb_X10_running ml_X10_373 im_X10_running se_X10_running z0 rfl rfl (rest := []) rfl (Nat.le_of_ble_eq_true rfl) ⟨Nat.le_of_ble_eq_true rfl, Nat.le_of_ble_eq_true rfl⟩ ⟨Nat.le_of_ble_eq_true rfl, Nat.le_of_ble_eq_true rfl⟩ (k' := 0) (z' := 0) (N' := N) rfl rfl rfl (fun r τ hp => ?_)
    obtain ⟨rfl, rfl⟩ := hp
    exact m_iret F hQ e_X10_count_98 (by rw [if_neg (fun h => h.elim hlo hhi)])
  · refine m_tableIn F e_X10_count_6 hlo hhi (off := 93) (by rw [hx]; rfl) (tgt := 99) (by decide) ?_
    refine m_aload_n F rfl e_X10_count_99 ?_
    refine m_get F e_X10_count_100 fl_X10_214 z0 rfl ?_
    exact m_iret F hQ e_X10_count_103 (by rw [if_neg (fun h => h.elim hlo hhi)])
  · refine m_tableIn F e_X10_count_6 hlo hhi (off := 98) (by rw [hx]; rfl) (tgt := 104) (by decide) ?_
    refine m_aload_n F rfl e_X10_count_104 ?_
    refine m_get F e_X10_count_105 fl_X10_94 z0 rfl ?_
    exact m_iret F hQ e_X10_count_108 (by rw [if_neg (fun h => h.elim hlo hhi)])
end
section
theorem e_X10_feed_20 : DC cX10_feed 20 2 22 (.iload 6) := ⟨by decide +kernel, rfl⟩
theorem e_X10_feed_22 : DC cX10_feed 22 2 24 (.bipush 20) := ⟨by decide +kernel, rfl⟩
theorem e_X10_feed_24 : DJ cX10_feed 24 110 27 (.if_icmp .ge) := DJ.mk 86 (by decide +kernel) (by decide) rfl
theorem e_X10_feed_110 : DC cX10_feed 110 1 111 (.aload_n 0) := ⟨by decide +kernel, rfl⟩
theorem e_X10_feed_111 : DC cX10_feed 111 1 112 (.dup) := ⟨by decide +kernel, rfl⟩
theorem e_X10_feed_112 : DC cX10_feed 112 3 115 (.getfield 94) := ⟨by decide +kernel, rfl⟩
theorem e_X10_feed_115 : DC cX10_feed 115 2 117 (.bipush 20) := ⟨by decide +kernel, rfl⟩
theorem e_X10_feed_117 : DC cX10_feed 117 1 118 (.iadd) := ⟨by decide +kernel, rfl⟩
theorem e_X10_feed_118 : DC cX10_feed 118 3 121 (.putfield 94) := ⟨by decide +kernel, rfl⟩
theorem fp_X10_94 : FP RX10 94 8 2 false .int := ⟨RX10, TX10, 37, tyX10, rfl, by decide, uw_8, tb_in 1462 (by decide +kernel) (by decide +kernel), rfl, rfl, by decide +kernel, tyX10_ok, nmX10⟩
theorem e_X10_feed_121 : DC cX10_feed 121 1 122 (.aload_n 0) := ⟨by decide +kernel, rfl⟩
theorem e_X10_feed_122 : DC cX10_feed 122 3 125 (.getfield 94) := ⟨by decide +kernel, rfl⟩
theorem e_X10_feed_125 : DC cX10_feed 125 1 126 (.ireturn) := ⟨by decide +kernel, rfl⟩
theorem e_X10_feed_27 : DC cX10_feed 27 2 29 (.iload 6) := ⟨by decide +kernel, rfl⟩
theorem e_X10_feed_29 : DC cX10_feed 29 1 30 (.iconst 4) := ⟨by decide +kernel, rfl⟩
theorem e_X10_feed_30 : DJ cX10_feed 30 37 33 (.if_icmp .ge) := DJ.mk 7 (by decide +kernel) (by decide) rfl
theorem e_X10_feed_37 : DC cX10_feed 37 2 39 (.iload 6) := ⟨by decide +kernel, rfl⟩
theorem e_X10_feed_39 : DC cX10_feed 39 2 41 (.bipush 8) := ⟨by decide +kernel, rfl⟩
theorem e_X10_feed_41 : DJ cX10_feed 41 48 44 (.if_icmp .ge) := DJ.mk 7 (by decide +kernel) (by decide) rfl
theorem e_X10_feed_48 : DC cX10_feed 48 2 50 (.iload 6) := ⟨by decide +kernel, rfl⟩
theorem e_X10_feed_50 : DC cX10_feed 50 2 52 (.bipush 12) := ⟨by decide +kernel, rfl⟩
theorem e_X10_feed_52 : DJ cX10_feed 52 59 55 (.if_icmp .ge) := DJ.mk 7 (by decide +kernel) (by decide) rfl
theorem e_X10_feed_59 : DC cX10_feed 59 2 61 (.iload 6) := ⟨by decide +kernel, rfl⟩
theorem e_X10_feed_61 : DC cX10_feed 61 2 63 (.bipush 16) := ⟨by decide +kernel, rfl⟩
theorem e_X10_feed_63 : DJ cX10_feed 63 71 66 (.if_icmp .ge) := DJ.mk 8 (by decide +kernel) (by decide) rfl
theorem e_X10_feed_71 : DC cX10_feed 71 2 73 (.iload 5) := ⟨by decide +kernel, rfl⟩
theorem e_X10_feed_73 : DC cX10_feed 73 2 75 (.istore 7) := ⟨by decide +kernel, rfl⟩
theorem e_X10_feed_75 : DC cX10_feed 75 1 76 (.aload_n 0) := ⟨by decide +kernel, rfl⟩
theorem e_X10_feed_76 : DC cX10_feed 76 3 79 (.getfield 7) := ⟨by decide +kernel, rfl⟩
theorem fl_X10_7 : FL RX10 7 8 1 := ⟨RX10, TX10, 37, rfl, by decide, uw_8, tb_in 1461 (by decide +kernel) (by decide +kernel), rfl⟩
theorem e_X10_feed_79 : DC cX10_feed 79 1 80 (.aload_n 0) := ⟨by decide +kernel, rfl⟩
theorem e_X10_feed_80 : DC cX10_feed 80 3 83 (.getfield 94) := ⟨by decide +kernel, rfl⟩
theorem e_X10_feed_83 : DC cX10_feed 83 2 85 (.iload 6) := ⟨by decide +kernel, rfl⟩
theorem e_X10_feed_85 : DC cX10_feed 85 1 86 (.iadd) := ⟨by decide +kernel, rfl⟩
theorem e_X10_feed_86 : DC cX10_feed 86 2 88 (.iload 7) := ⟨by decide +kernel, rfl⟩
theorem e_X10_feed_88 : DC cX10_feed 88 2 90 (.bipush 24) := ⟨by decide +kernel, rfl⟩
theorem e_X10_feed_90 : DC cX10_feed 90 2 92 (.bipush 8) := ⟨by decide +kernel, rfl⟩
theorem e_X10_feed_92 : DC cX10_feed 92 2 94 (.iload 6) := ⟨by decide +kernel, rfl⟩
theorem e_X10_feed_94 : DC cX10_feed 94 1 95 (.iconst 4) := ⟨by decide +kernel, rfl⟩
theorem e_X10_feed_95 : DC cX10_feed 95 1 96 (.irem) := ⟨by decide +kernel, rfl⟩
theorem e_X10_feed_96 : DC cX10_feed 96 1 97 (.imul) := ⟨by decide +kernel, rfl⟩
theorem e_X10_feed_97 : DC cX10_feed 97 1 98 (.isub) := ⟨by decide +kernel, rfl⟩
theorem e_X10_feed_98 : DC cX10_feed 98 1 99 (.ishr) := ⟨by decide +kernel, rfl⟩
theorem e_X10_feed_99 : DC cX10_feed 99 3 102 (.sipush 255) := ⟨by decide +kernel, rfl⟩
theorem e_X10_feed_102 : DC cX10_feed 102 1 103 (.iand) := ⟨by decide +kernel, rfl⟩
theorem e_X10_feed_103 : DC cX10_feed 103 1 104 (.iastore) := ⟨by decide +kernel, rfl⟩
theorem e_X10_feed_104 : DC cX10_feed 104 3 107 (.iinc 6 1) := ⟨by decide +kernel, rfl⟩
theorem e_X10_feed_107 : DJ cX10_feed 107 20 110 .goto := DJ.mk (-87) (by decide +kernel) (by decide) rfl
theorem e_X10_feed_66 : DC cX10_feed 66 2 68 (.iload 4) := ⟨by decide +kernel, rfl⟩
theorem e_X10_feed_68 : DJ cX10_feed 68 73 71 .goto := DJ.mk 5 (by decide +kernel) (by decide) rfl
theorem e_X10_feed_55 : DC cX10_feed 55 1 56 (.iload_n 3) := ⟨by decide +kernel, rfl⟩
theorem e_X10_feed_56 : DJ cX10_feed 56 73 59 .goto := DJ.mk 17 (by decide +kernel) (by decide) rfl
theorem e_X10_feed_44 : DC cX10_feed 44 1 45 (.iload_n 2) := ⟨by decide +kernel, rfl⟩
theorem e_X10_feed_45 : DJ cX10_feed 45 73 48 .goto := DJ.mk 28 (by decide +kernel) (by decide) rfl
theorem e_X10_feed_33 : DC cX10_feed 33 1 34 (.iload_n 1) := ⟨by decide +kernel, rfl⟩
theorem e_X10_feed_34 : DJ cX10_feed 34 73 37 .goto := DJ.mk 39 (by decide +kernel) (by decide) rfl
theorem e_X10_feed_0 : DC cX10_feed 0 1 1 (.aload_n 0) := ⟨by decide +kernel, rfl⟩
theorem e_X10_feed_1 : DC cX10_feed 1 1 2 (.iconst 0) := ⟨by decide +kernel, rfl⟩
theorem e_X10_feed_2 : DC cX10_feed 2 3 5 (.putfield 91) := ⟨by decide +kernel, rfl⟩
theorem e_X10_feed_5 : DC cX10_feed 5 1 6 (.aload_n 0) := ⟨by decide +kernel, rfl⟩
theorem e_X10_feed_6 : DC cX10_feed 6 3 9 (.getfield 94) := ⟨by decide +kernel, rfl⟩
theorem e_X10_feed_9 : DC cX10_feed 9 3 12 (.sipush 680) := ⟨by decide +kernel, rfl⟩
theorem e_X10_feed_12 : DJ cX10_feed 12 17 15 (.if_icmp .le) := DJ.mk 5 (by decide +kernel) (by decide) rfl
theorem e_X10_feed_17 : DC cX10_feed 17 1 18 (.iconst 0) := ⟨by decide +kernel, rfl⟩
theorem e_X10_feed_18 : DC cX10_feed 18 2 20 (.istore 6) := ⟨by decide +kernel, rfl⟩
theorem e_X10_here_0 : DC cX10_here 0 1 1 (.aload_n 0) := ⟨by decide +kernel, rfl⟩
theorem e_X10_here_1 : DC cX10_here 1 3 4 (.getfield 97) := ⟨by decide +kernel, rfl⟩
theorem fl_X10_97 : FL RX10 97 8 19 := ⟨RX10, TX10, 37, rfl, by decide, uw_8, tb_in 1479 (by decide +kernel) (by decide +kernel), rfl⟩
theorem e_X10_here_4 : DC cX10_here 4 1 5 (.aload_n 0) := ⟨by decide +kernel, rfl⟩
theorem e_X10_here_5 : DC cX10_here 5 3 8 (.getfield 100) := ⟨by decide +kernel, rfl⟩
theorem fl_X10_100 : FL RX10 100 8 18 := ⟨RX10, TX10, 37, rfl, by decide, uw_8, tb_in 1478 (by decide +kernel) (by decide +kernel), rfl⟩
theorem e_X10_here_8 : DJ cX10_here 8 23 11 (.if_icmp .ge) := DJ.mk 15 (by decide +kernel) (by decide) rfl
theorem e_X10_here_23 : DC cX10_here 23 1 24 (.iconst (-1)) := ⟨by decide +kernel, rfl⟩
theorem e_X10_here_24 : DC cX10_here 24 1 25 (.ireturn) := ⟨by decide +kernel, rfl⟩
theorem e_X10_token_0 : DC cX10_token 0 1 1 (.aload_n 0) := ⟨by decide +kernel, rfl⟩
theorem e_X10_token_1 : DC cX10_token 1 3 4 (.invokevirtual 103) := ⟨by decide +kernel, rfl⟩
theorem cb_X10_here : CB yX10_here cX10_here 1 (some .int) 0 := ⟨tb_in 1596 (by decide +kernel) (by decide +kernel), tb_in 10 (by decide +kernel) (by decide +kernel), by decide +kernel⟩
theorem ml_X10_103 : Cond.methodLink RX10 103 yX10_here ∈ tb := tb_in 1593 (by decide +kernel) (by decide +kernel)
theorem im_X10_here : Cond.instanceMethod yX10_here ∈ tb := tb_in 1595 (by decide +kernel) (by decide +kernel)
theorem se_X10_here : Cond.selects (yX10_here).cls yX10_here yX10_here ∈ tb := tb_sel 19 (by decide +kernel) (by decide +kernel)
theorem e_X10_token_4 : DC cX10_token 4 2 6 (.bipush 10) := ⟨by decide +kernel, rfl⟩
theorem e_X10_token_6 : DJ cX10_token 6 18 9 (.if_icmp .eq) := DJ.mk 12 (by decide +kernel) (by decide) rfl
theorem e_X10_token_9 : DC cX10_token 9 1 10 (.aload_n 0) := ⟨by decide +kernel, rfl⟩
theorem e_X10_token_10 : DC cX10_token 10 3 13 (.invokevirtual 103) := ⟨by decide +kernel, rfl⟩
theorem e_X10_token_13 : DC cX10_token 13 2 15 (.bipush 32) := ⟨by decide +kernel, rfl⟩
theorem e_X10_token_15 : DJ cX10_token 15 31 18 (.if_icmp .ne) := DJ.mk 16 (by decide +kernel) (by decide) rfl
theorem e_X10_token_31 : DC cX10_token 31 1 32 (.aload_n 0) := ⟨by decide +kernel, rfl⟩
theorem e_X10_token_32 : DC cX10_token 32 1 33 (.aload_n 0) := ⟨by decide +kernel, rfl⟩
theorem e_X10_token_33 : DC cX10_token 33 3 36 (.getfield 97) := ⟨by decide +kernel, rfl⟩
theorem e_X10_token_36 : DC cX10_token 36 3 39 (.putfield 107) := ⟨by decide +kernel, rfl⟩
theorem fp_X10_107 : FP RX10 107 8 20 false .int := ⟨RX10, TX10, 37, tyX10, rfl, by decide, uw_8, tb_in 1480 (by decide +kernel) (by decide +kernel), rfl, rfl, by decide +kernel, tyX10_ok, nmX10⟩
theorem e_X10_token_39 : DC cX10_token 39 1 40 (.aload_n 0) := ⟨by decide +kernel, rfl⟩
theorem e_X10_token_40 : DC cX10_token 40 3 43 (.invokevirtual 103) := ⟨by decide +kernel, rfl⟩
theorem e_X10_token_43 : DC cX10_token 43 1 44 (.istore_n 1) := ⟨by decide +kernel, rfl⟩
theorem e_X10_token_44 : DC cX10_token 44 1 45 (.iload_n 1) := ⟨by decide +kernel, rfl⟩
theorem e_X10_token_45 : DC cX10_token 45 1 46 (.iconst (-1)) := ⟨by decide +kernel, rfl⟩
theorem e_X10_token_46 : DJ cX10_token 46 57 49 (.if_icmp .ne) := DJ.mk 11 (by decide +kernel) (by decide) rfl
theorem e_X10_token_49 : DC cX10_token 49 1 50 (.aload_n 0) := ⟨by decide +kernel, rfl⟩
theorem e_X10_token_50 : DC cX10_token 50 1 51 (.iconst 4) := ⟨by decide +kernel, rfl⟩
theorem e_X10_token_51 : DC cX10_token 51 3 54 (.putfield 110) := ⟨by decide +kernel, rfl⟩
theorem fp_X10_110 : FP RX10 110 8 21 false .int := ⟨RX10, TX10, 37, tyX10, rfl, by decide, uw_8, tb_in 1481 (by decide +kernel) (by decide +kernel), rfl, rfl, by decide +kernel, tyX10_ok, nmX10⟩
theorem e_X10_token_54 : DJ cX10_token 54 245 57 .goto := DJ.mk 191 (by decide +kernel) (by decide) rfl
theorem e_X10_token_245 : DC cX10_token 245 1 246 (.return_) := ⟨by decide +kernel, rfl⟩
theorem e_X10_readText_0 : DC cX10_readText 0 1 1 (.aload_n 0) := ⟨by decide +kernel, rfl⟩
theorem e_X10_readText_1 : DC cX10_readText 1 1 2 (.iload_n 1) := ⟨by decide +kernel, rfl⟩
theorem e_X10_readText_2 : DC cX10_readText 2 3 5 (.putfield 100) := ⟨by decide +kernel, rfl⟩
theorem fp_X10_100 : FP RX10 100 8 18 false .int := ⟨RX10, TX10, 37, tyX10, rfl, by decide, uw_8, tb_in 1478 (by decide +kernel) (by decide +kernel), rfl, rfl, by decide +kernel, tyX10_ok, nmX10⟩
theorem e_X10_readText_5 : DC cX10_readText 5 1 6 (.aload_n 0) := ⟨by decide +kernel, rfl⟩
theorem e_X10_readText_6 : DC cX10_readText 6 1 7 (.iconst 0) := ⟨by decide +kernel, rfl⟩
theorem e_X10_readText_7 : DC cX10_readText 7 3 10 (.putfield 97) := ⟨by decide +kernel, rfl⟩
theorem fp_X10_97 : FP RX10 97 8 19 false .int := ⟨RX10, TX10, 37, tyX10, rfl, by decide, uw_8, tb_in 1479 (by decide +kernel) (by decide +kernel), rfl, rfl, by decide +kernel, tyX10_ok, nmX10⟩
theorem e_X10_readText_10 : DC cX10_readText 10 1 11 (.aload_n 0) := ⟨by decide +kernel, rfl⟩
theorem e_X10_readText_11 : DC cX10_readText 11 1 12 (.iconst 0) := ⟨by decide +kernel, rfl⟩
theorem e_X10_readText_12 : DC cX10_readText 12 3 15 (.putfield 141) := ⟨by decide +kernel, rfl⟩
theorem fp_X10_141 : FP RX10 141 8 23 false .int := ⟨RX10, TX10, 37, tyX10, rfl, by decide, uw_8, tb_in 1483 (by decide +kernel) (by decide +kernel), rfl, rfl, by decide +kernel, tyX10_ok, nmX10⟩
theorem e_X10_readText_15 : DC cX10_readText 15 1 16 (.aload_n 0) := ⟨by decide +kernel, rfl⟩
theorem e_X10_readText_16 : DC cX10_readText 16 1 17 (.iconst 0) := ⟨by decide +kernel, rfl⟩
theorem e_X10_readText_17 : DC cX10_readText 17 3 20 (.putfield 202) := ⟨by decide +kernel, rfl⟩
theorem fp_X10_202 : FP RX10 202 8 17 false .int := ⟨RX10, TX10, 37, tyX10, rfl, by decide, uw_8, tb_in 1477 (by decide +kernel) (by decide +kernel), rfl, rfl, by decide +kernel, tyX10_ok, nmX10⟩
theorem e_X10_readText_20 : DC cX10_readText 20 1 21 (.aload_n 0) := ⟨by decide +kernel, rfl⟩
theorem e_X10_readText_21 : DC cX10_readText 21 3 24 (.invokevirtual 82) := ⟨by decide +kernel, rfl⟩
theorem e_X10_readText_24 : DC cX10_readText 24 1 25 (.aload_n 0) := ⟨by decide +kernel, rfl⟩
theorem e_X10_readText_25 : DC cX10_readText 25 3 28 (.invokevirtual 147) := ⟨by decide +kernel, rfl⟩
theorem cb_X10_token : CB yX10_token cX10_token 2 none 0 := ⟨tb_in 1592 (by decide +kernel) (by decide +kernel), tb_in 10 (by decide +kernel) (by decide +kernel), by decide +kernel⟩
theorem ml_X10_147 : Cond.methodLink RX10 147 yX10_token ∈ tb := tb_in 1589 (by decide +kernel) (by decide +kernel)
theorem im_X10_token : Cond.instanceMethod yX10_token ∈ tb := tb_in 1591 (by decide +kernel) (by decide +kernel)
theorem se_X10_token : Cond.selects (yX10_token).cls yX10_token yX10_token ∈ tb := tb_sel 18 (by decide +kernel) (by decide +kernel)
theorem e_X10_readText_28 : DC cX10_readText 28 1 29 (.aload_n 0) := ⟨by decide +kernel, rfl⟩
theorem e_X10_readText_29 : DC cX10_readText 29 3 32 (.getfield 141) := ⟨by decide +kernel, rfl⟩
theorem fl_X10_141 : FL RX10 141 8 23 := ⟨RX10, TX10, 37, rfl, by decide, uw_8, tb_in 1483 (by decide +kernel) (by decide +kernel), rfl⟩
theorem e_X10_readText_32 : DJ cX10_readText 32 50 35 (.ifCond .ne) := DJ.mk 18 (by decide +kernel) (by decide) rfl
theorem e_X10_readText_35 : DC cX10_readText 35 1 36 (.aload_n 0) := ⟨by decide +kernel, rfl⟩
theorem e_X10_readText_36 : DC cX10_readText 36 3 39 (.getfield 110) := ⟨by decide +kernel, rfl⟩
theorem fl_X10_110 : FL RX10 110 8 21 := ⟨RX10, TX10, 37, rfl, by decide, uw_8, tb_in 1481 (by decide +kernel) (by decide +kernel), rfl⟩
theorem e_X10_readText_39 : DC cX10_readText 39 1 40 (.iconst 4) := ⟨by decide +kernel, rfl⟩
theorem e_X10_readText_40 : DJ cX10_readText 40 50 43 (.if_icmp .eq) := DJ.mk 10 (by decide +kernel) (by decide) rfl
theorem e_X10_readText_50 : DC cX10_readText 50 1 51 (.return_) := ⟨by decide +kernel, rfl⟩
theorem e_X10_text_0 : DC cX10_text 0 1 1 (.aload_n 0) := ⟨by decide +kernel, rfl⟩
theorem e_X10_text_1 : DC cX10_text 1 1 2 (.iconst 0) := ⟨by decide +kernel, rfl⟩
theorem e_X10_text_2 : DC cX10_text 2 3 5 (.putfield 91) := ⟨by decide +kernel, rfl⟩
theorem e_X10_text_5 : DC cX10_text 5 1 6 (.iload_n 1) := ⟨by decide +kernel, rfl⟩
theorem e_X10_text_6 : DJ cX10_text 6 17 9 (.ifCond .lt) := DJ.mk 11 (by decide +kernel) (by decide) rfl
theorem e_X10_text_17 : DC cX10_text 17 2 19 (.bipush (-2)) := ⟨by decide +kernel, rfl⟩
theorem e_X10_text_19 : DC cX10_text 19 1 20 (.ireturn) := ⟨by decide +kernel, rfl⟩
theorem e_X10_text_9 : DC cX10_text 9 1 10 (.iload_n 1) := ⟨by decide +kernel, rfl⟩
theorem e_X10_text_10 : DC cX10_text 10 1 11 (.aload_n 0) := ⟨by decide +kernel, rfl⟩
theorem e_X10_text_11 : DC cX10_text 11 3 14 (.getfield 94) := ⟨by decide +kernel, rfl⟩
theorem e_X10_text_14 : DJ cX10_text 14 20 17 (.if_icmp .le) := DJ.mk 6 (by decide +kernel) (by decide) rfl
theorem e_X10_text_20 : DC cX10_text 20 1 21 (.aload_n 0) := ⟨by decide +kernel, rfl⟩
theorem e_X10_text_21 : DC cX10_text 21 1 22 (.iload_n 1) := ⟨by decide +kernel, rfl⟩
theorem e_X10_text_22 : DC cX10_text 22 3 25 (.invokevirtual 208) := ⟨by decide +kernel, rfl⟩
theorem cb_X10_readText : CB yX10_readText cX10_readText 2 none 1 := ⟨tb_in 1588 (by decide +kernel) (by decide +kernel), tb_in 10 (by decide +kernel) (by decide +kernel), by decide +kernel⟩
theorem ml_X10_208 : Cond.methodLink RX10 208 yX10_readText ∈ tb := tb_in 1585 (by decide +kernel) (by decide +kernel)
theorem im_X10_readText : Cond.instanceMethod yX10_readText ∈ tb := tb_in 1587 (by decide +kernel) (by decide +kernel)
theorem se_X10_readText : Cond.selects (yX10_readText).cls yX10_readText yX10_readText ∈ tb := tb_sel 17 (by decide +kernel) (by decide +kernel)
theorem e_X10_text_25 : DC cX10_text 25 1 26 (.aload_n 0) := ⟨by decide +kernel, rfl⟩
theorem e_X10_text_26 : DC cX10_text 26 1 27 (.iconst 0) := ⟨by decide +kernel, rfl⟩
theorem e_X10_text_27 : DC cX10_text 27 3 30 (.putfield 94) := ⟨by decide +kernel, rfl⟩
theorem e_X10_text_30 : DC cX10_text 30 1 31 (.aload_n 0) := ⟨by decide +kernel, rfl⟩
theorem e_X10_text_31 : DC cX10_text 31 1 32 (.aload_n 0) := ⟨by decide +kernel, rfl⟩
theorem e_X10_text_32 : DC cX10_text 32 3 35 (.getfield 141) := ⟨by decide +kernel, rfl⟩
theorem e_X10_text_35 : DC cX10_text 35 3 38 (.putfield 211) := ⟨by decide +kernel, rfl⟩
theorem fp_X10_211 : FP RX10 211 8 25 false .int := ⟨RX10, TX10, 37, tyX10, rfl, by decide, uw_8, tb_in 1485 (by decide +kernel) (by decide +kernel), rfl, rfl, by decide +kernel, tyX10_ok, nmX10⟩
theorem e_X10_text_38 : DC cX10_text 38 1 39 (.aload_n 0) := ⟨by decide +kernel, rfl⟩
theorem e_X10_text_39 : DC cX10_text 39 1 40 (.aload_n 0) := ⟨by decide +kernel, rfl⟩
theorem e_X10_text_40 : DC cX10_text 40 3 43 (.getfield 141) := ⟨by decide +kernel, rfl⟩
theorem e_X10_text_43 : DJ cX10_text 43 50 46 (.ifCond .ne) := DJ.mk 7 (by decide +kernel) (by decide) rfl
theorem e_X10_text_46 : DC cX10_text 46 1 47 (.iconst (-1)) := ⟨by decide +kernel, rfl⟩
theorem e_X10_text_47 : DJ cX10_text 47 54 50 .goto := DJ.mk 7 (by decide +kernel) (by decide) rfl
theorem e_X10_text_54 : DC cX10_text 54 3 57 (.putfield 55) := ⟨by decide +kernel, rfl⟩
theorem e_X10_text_57 : DC cX10_text 57 1 58 (.aload_n 0) := ⟨by decide +kernel, rfl⟩
theorem e_X10_text_58 : DC cX10_text 58 3 61 (.getfield 141) := ⟨by decide +kernel, rfl⟩
theorem e_X10_text_61 : DJ cX10_text 61 66 64 (.ifCond .eq) := DJ.mk 5 (by decide +kernel) (by decide) rfl
theorem e_X10_text_66 : DC cX10_text 66 1 67 (.aload_n 0) := ⟨by decide +kernel, rfl⟩
theorem e_X10_text_67 : DC cX10_text 67 3 70 (.invokevirtual 85) := ⟨by decide +kernel, rfl⟩
theorem e_X10_text_70 : DC cX10_text 70 1 71 (.aload_n 0) := ⟨by decide +kernel, rfl⟩
theorem e_X10_text_71 : DC cX10_text 71 3 74 (.invokevirtual 88) := ⟨by decide +kernel, rfl⟩
theorem e_X10_text_74 : DC cX10_text 74 1 75 (.aload_n 0) := ⟨by decide +kernel, rfl⟩
theorem e_X10_text_75 : DC cX10_text 75 1 76 (.iconst 0) := ⟨by decide +kernel, rfl⟩
theorem e_X10_text_76 : DC cX10_text 76 3 79 (.putfield 214) := ⟨by decide +kernel, rfl⟩
theorem e_X10_text_79 : DC cX10_text 79 1 80 (.aload_n 0) := ⟨by decide +kernel, rfl⟩
theorem e_X10_text_80 : DC cX10_text 80 1 81 (.iconst 0) := ⟨by decide +kernel, rfl⟩
theorem e_X10_text_81 : DC cX10_text 81 3 84 (.putfield 217) := ⟨by decide +kernel, rfl⟩
theorem e_X10_text_84 : DC cX10_text 84 1 85 (.aload_n 0) := ⟨by decide +kernel, rfl⟩
theorem e_X10_text_85 : DC cX10_text 85 3 88 (.getfield 202) := ⟨by decide +kernel, rfl⟩
theorem fl_X10_202 : FL RX10 202 8 17 := ⟨RX10, TX10, 37, rfl, by decide, uw_8, tb_in 1477 (by decide +kernel) (by decide +kernel), rfl⟩
theorem e_X10_text_88 : DC cX10_text 88 1 89 (.ireturn) := ⟨by decide +kernel, rfl⟩
theorem e_X10_go_41 : DC cX10_go 41 1 42 (.iload_n 2) := ⟨by decide +kernel, rfl⟩
theorem e_X10_go_42 : DC cX10_go 42 1 43 (.iload_n 1) := ⟨by decide +kernel, rfl⟩
theorem e_X10_go_43 : DJ cX10_go 43 60 46 (.if_icmp .ge) := DJ.mk 17 (by decide +kernel) (by decide) rfl
theorem e_X10_go_60 : DC cX10_go 60 1 61 (.aload_n 0) := ⟨by decide +kernel, rfl⟩
theorem e_X10_go_61 : DC cX10_go 61 3 64 (.getfield 59) := ⟨by decide +kernel, rfl⟩
theorem e_X10_go_64 : DC cX10_go 64 3 67 (.sipush 744) := ⟨by decide +kernel, rfl⟩
theorem e_X10_go_67 : DC cX10_go 67 1 68 (.laload) := ⟨by decide +kernel, rfl⟩
theorem e_X10_go_68 : DC cX10_go 68 1 69 (.l2i) := ⟨by decide +kernel, rfl⟩
theorem e_X10_go_69 : DC cX10_go 69 1 70 (.ireturn) := ⟨by decide +kernel, rfl⟩
theorem e_X10_go_46 : DC cX10_go 46 1 47 (.aload_n 0) := ⟨by decide +kernel, rfl⟩
theorem e_X10_go_47 : DC cX10_go 47 3 50 (.invokevirtual 286) := ⟨by decide +kernel, rfl⟩
theorem cb_X10_remembers : CB yX10_remembers cX10_remembers 2 none 0 := ⟨tb_in 1711 (by decide +kernel) (by decide +kernel), tb_in 10 (by decide +kernel) (by decide +kernel), by decide +kernel⟩
theorem ml_X10_286 : Cond.methodLink RX10 286 yX10_remembers ∈ tb := tb_in 1708 (by decide +kernel) (by decide +kernel)
theorem im_X10_remembers : Cond.instanceMethod yX10_remembers ∈ tb := tb_in 1710 (by decide +kernel) (by decide +kernel)
theorem se_X10_remembers : Cond.selects (yX10_remembers).cls yX10_remembers yX10_remembers ∈ tb := tb_sel 36 (by decide +kernel) (by decide +kernel)
theorem e_X10_go_50 : DC cX10_go 50 1 51 (.aload_n 0) := ⟨by decide +kernel, rfl⟩
theorem e_X10_go_51 : DC cX10_go 51 3 54 (.invokevirtual 289) := ⟨by decide +kernel, rfl⟩
theorem e_X10_go_54 : DC cX10_go 54 3 57 (.iinc 2 1) := ⟨by decide +kernel, rfl⟩
theorem e_X10_go_57 : DJ cX10_go 57 41 60 .goto := DJ.mk (-16) (by decide +kernel) (by decide) rfl
theorem e_X10_go_0 : DC cX10_go 0 1 1 (.aload_n 0) := ⟨by decide +kernel, rfl⟩
theorem e_X10_go_1 : DC cX10_go 1 1 2 (.iconst 0) := ⟨by decide +kernel, rfl⟩
theorem e_X10_go_2 : DC cX10_go 2 3 5 (.putfield 91) := ⟨by decide +kernel, rfl⟩
theorem e_X10_go_5 : DC cX10_go 5 1 6 (.iload_n 1) := ⟨by decide +kernel, rfl⟩
theorem e_X10_go_6 : DC cX10_go 6 1 7 (.iconst 1) := ⟨by decide +kernel, rfl⟩
theorem e_X10_go_7 : DJ cX10_go 7 16 10 (.if_icmp .lt) := DJ.mk 9 (by decide +kernel) (by decide) rfl
theorem e_X10_go_16 : DC cX10_go 16 1 17 (.iconst (-1)) := ⟨by decide +kernel, rfl⟩
theorem e_X10_go_17 : DC cX10_go 17 1 18 (.ireturn) := ⟨by decide +kernel, rfl⟩
theorem e_X10_go_10 : DC cX10_go 10 1 11 (.iload_n 1) := ⟨by decide +kernel, rfl⟩
theorem e_X10_go_11 : DC cX10_go 11 2 13 (.bipush 12) := ⟨by decide +kernel, rfl⟩
theorem e_X10_go_13 : DJ cX10_go 13 18 16 (.if_icmp .le) := DJ.mk 5 (by decide +kernel) (by decide) rfl
theorem e_X10_go_18 : DC cX10_go 18 1 19 (.aload_n 0) := ⟨by decide +kernel, rfl⟩
theorem e_X10_go_19 : DC cX10_go 19 3 22 (.getfield 59) := ⟨by decide +kernel, rfl⟩
theorem e_X10_go_22 : DC cX10_go 22 3 25 (.sipush 744) := ⟨by decide +kernel, rfl⟩
theorem e_X10_go_25 : DC cX10_go 25 1 26 (.laload) := ⟨by decide +kernel, rfl⟩
theorem e_X10_go_26 : DC cX10_go 26 1 27 (.iload_n 1) := ⟨by decide +kernel, rfl⟩
theorem e_X10_go_27 : DC cX10_go 27 1 28 (.i2l) := ⟨by decide +kernel, rfl⟩
theorem e_X10_go_28 : DC cX10_go 28 1 29 (.ladd) := ⟨by decide +kernel, rfl⟩
theorem e_X10_go_29 : DC cX10_go 29 3 32 (.ldc2_w 284) := ⟨by decide +kernel, rfl⟩
theorem e_X10_go_32 : DC cX10_go 32 1 33 (.lcmp) := ⟨by decide +kernel, rfl⟩
theorem e_X10_go_33 : DJ cX10_go 33 39 36 (.ifCond .le) := DJ.mk 6 (by decide +kernel) (by decide) rfl
theorem e_X10_go_39 : DC cX10_go 39 1 40 (.iconst 0) := ⟨by decide +kernel, rfl⟩
theorem e_X10_go_40 : DC cX10_go 40 1 41 (.istore_n 2) := ⟨by decide +kernel, rfl⟩
theorem e_X10_become_0 : DC cX10_become 0 1 1 (.aload_n 0) := ⟨by decide +kernel, rfl⟩
theorem e_X10_become_1 : DC cX10_become 1 1 2 (.iconst 0) := ⟨by decide +kernel, rfl⟩
theorem e_X10_become_2 : DC cX10_become 2 3 5 (.putfield 91) := ⟨by decide +kernel, rfl⟩
theorem e_X10_become_5 : DC cX10_become 5 1 6 (.iload_n 1) := ⟨by decide +kernel, rfl⟩
theorem e_X10_become_6 : DC cX10_become 6 3 9 (.sipush 500) := ⟨by decide +kernel, rfl⟩
theorem e_X10_become_9 : DJ cX10_become 9 19 12 (.if_icmp .lt) := DJ.mk 10 (by decide +kernel) (by decide) rfl
theorem e_X10_become_19 : DC cX10_become 19 1 20 (.iconst (-1)) := ⟨by decide +kernel, rfl⟩
theorem e_X10_become_20 : DC cX10_become 20 1 21 (.ireturn) := ⟨by decide +kernel, rfl⟩
theorem e_X10_become_12 : DC cX10_become 12 1 13 (.iload_n 1) := ⟨by decide +kernel, rfl⟩
theorem e_X10_become_13 : DC cX10_become 13 3 16 (.sipush 2000) := ⟨by decide +kernel, rfl⟩
theorem e_X10_become_16 : DJ cX10_become 16 21 19 (.if_icmp .le) := DJ.mk 5 (by decide +kernel) (by decide) rfl
theorem e_X10_become_21 : DC cX10_become 21 1 22 (.aload_n 0) := ⟨by decide +kernel, rfl⟩
theorem e_X10_become_22 : DC cX10_become 22 3 25 (.invokevirtual 260) := ⟨by decide +kernel, rfl⟩
theorem cb_X10_indexNow : CB yX10_indexNow cX10_indexNow 1 (some .long) 0 := ⟨tb_in 1726 (by decide +kernel) (by decide +kernel), tb_in 10 (by decide +kernel) (by decide +kernel), by decide +kernel⟩
theorem ml_X10_260 : Cond.methodLink RX10 260 yX10_indexNow ∈ tb := tb_in 1723 (by decide +kernel) (by decide +kernel)
theorem im_X10_indexNow : Cond.instanceMethod yX10_indexNow ∈ tb := tb_in 1725 (by decide +kernel) (by decide +kernel)
theorem se_X10_indexNow : Cond.selects (yX10_indexNow).cls yX10_indexNow yX10_indexNow ∈ tb := tb_sel 39 (by decide +kernel) (by decide +kernel)
theorem e_X10_become_25 : DC cX10_become 25 1 26 (.l2i) := ⟨by decide +kernel, rfl⟩
theorem e_X10_become_26 : DC cX10_become 26 1 27 (.istore_n 2) := ⟨by decide +kernel, rfl⟩
theorem e_X10_become_27 : DC cX10_become 27 1 28 (.aload_n 0) := ⟨by decide +kernel, rfl⟩
theorem e_X10_become_28 : DC cX10_become 28 3 31 (.invokevirtual 286) := ⟨by decide +kernel, rfl⟩
theorem e_X10_become_31 : DC cX10_become 31 1 32 (.aload_n 0) := ⟨by decide +kernel, rfl⟩
theorem e_X10_become_32 : DC cX10_become 32 1 33 (.iload_n 1) := ⟨by decide +kernel, rfl⟩
theorem e_X10_become_33 : DC cX10_become 33 1 34 (.i2l) := ⟨by decide +kernel, rfl⟩
theorem e_X10_become_34 : DC cX10_become 34 3 37 (.invokevirtual 322) := ⟨by decide +kernel, rfl⟩
theorem cb_X10_becomes : CB yX10_becomes cX10_becomes 6 none 1 := ⟨tb_in 1861 (by decide +kernel) (by decide +kernel), tb_in 10 (by decide +kernel) (by decide +kernel), by decide +kernel⟩
theorem ml_X10_322 : Cond.methodLink RX10 322 yX10_becomes ∈ tb := tb_in 1858 (by decide +kernel) (by decide +kernel)
theorem im_X10_becomes : Cond.instanceMethod yX10_becomes ∈ tb := tb_in 1860 (by decide +kernel) (by decide +kernel)
theorem se_X10_becomes : Cond.selects (yX10_becomes).cls yX10_becomes yX10_becomes ∈ tb := tb_sel 55 (by decide +kernel) (by decide +kernel)
theorem e_X10_become_37 : DC cX10_become 37 1 38 (.iload_n 2) := ⟨by decide +kernel, rfl⟩
theorem e_X10_become_38 : DC cX10_become 38 1 39 (.ireturn) := ⟨by decide +kernel, rfl⟩
theorem e_X10_all_0 : DC cX10_all 0 1 1 (.aload_n 0) := ⟨by decide +kernel, rfl⟩
theorem e_X10_all_1 : DC cX10_all 1 1 2 (.iconst 0) := ⟨by decide +kernel, rfl⟩
theorem e_X10_all_2 : DC cX10_all 2 3 5 (.putfield 91) := ⟨by decide +kernel, rfl⟩
theorem e_X10_all_5 : DC cX10_all 5 1 6 (.iload_n 1) := ⟨by decide +kernel, rfl⟩
theorem e_X10_all_6 : DC cX10_all 6 3 9 (.invokestatic 326) := ⟨by decide +kernel, rfl⟩
theorem cb_X10_areAhead : CB yX10_areAhead cX10_areAhead 1 (some .boolean) 1 := ⟨tb_in 1868 (by decide +kernel) (by decide +kernel), tb_in 10 (by decide +kernel) (by decide +kernel), by decide +kernel⟩
theorem ml_X10_326 : Cond.methodLink RX10 326 yX10_areAhead ∈ tb := tb_in 1866 (by decide +kernel) (by decide +kernel)
theorem sm_X10_areAhead : Cond.static yX10_areAhead ∈ tb := tb_in 1867 (by decide +kernel) (by decide +kernel)
theorem e_X10_all_9 : DJ cX10_all 9 16 12 (.ifCond .ne) := DJ.mk 7 (by decide +kernel) (by decide) rfl
theorem e_X10_all_12 : DC cX10_all 12 3 15 (.ldc2_w 245) := ⟨by decide +kernel, rfl⟩
theorem e_X10_all_15 : DC cX10_all 15 1 16 (.lreturn) := ⟨by decide +kernel, rfl⟩
theorem e_X10_all_16 : DC cX10_all 16 1 17 (.aload_n 0) := ⟨by decide +kernel, rfl⟩
theorem e_X10_all_17 : DC cX10_all 17 1 18 (.iload_n 1) := ⟨by decide +kernel, rfl⟩
theorem e_X10_all_18 : DC cX10_all 18 3 21 (.invokevirtual 329) := ⟨by decide +kernel, rfl⟩
theorem cb_X10_ahead : CB yX10_ahead cX10_ahead 3 none 1 := ⟨tb_in 1872 (by decide +kernel) (by decide +kernel), tb_in 10 (by decide +kernel) (by decide +kernel), by decide +kernel⟩
theorem ml_X10_329 : Cond.methodLink RX10 329 yX10_ahead ∈ tb := tb_in 1869 (by decide +kernel) (by decide +kernel)
theorem im_X10_ahead : Cond.instanceMethod yX10_ahead ∈ tb := tb_in 1871 (by decide +kernel) (by decide +kernel)
theorem se_X10_ahead : Cond.selects (yX10_ahead).cls yX10_ahead yX10_ahead ∈ tb := tb_sel 56 (by decide +kernel) (by decide +kernel)
theorem e_X10_all_21 : DC cX10_all 21 1 22 (.aload_n 0) := ⟨by decide +kernel, rfl⟩
theorem e_X10_all_22 : DC cX10_all 22 3 25 (.invokevirtual 335) := ⟨by decide +kernel, rfl⟩
theorem cb_X10_owedAll : CB yX10_owedAll cX10_owedAll 4 (some .long) 0 := ⟨tb_in 1884 (by decide +kernel) (by decide +kernel), tb_in 10 (by decide +kernel) (by decide +kernel), by decide +kernel⟩
theorem ml_X10_335 : Cond.methodLink RX10 335 yX10_owedAll ∈ tb := tb_in 1881 (by decide +kernel) (by decide +kernel)
theorem im_X10_owedAll : Cond.instanceMethod yX10_owedAll ∈ tb := tb_in 1883 (by decide +kernel) (by decide +kernel)
theorem se_X10_owedAll : Cond.selects (yX10_owedAll).cls yX10_owedAll yX10_owedAll ∈ tb := tb_sel 58 (by decide +kernel) (by decide +kernel)
theorem e_X10_all_25 : DC cX10_all 25 1 26 (.lstore_n 2) := ⟨by decide +kernel, rfl⟩
theorem e_X10_all_26 : DC cX10_all 26 1 27 (.aload_n 0) := ⟨by decide +kernel, rfl⟩
theorem e_X10_all_27 : DC cX10_all 27 3 30 (.invokevirtual 332) := ⟨by decide +kernel, rfl⟩
theorem cb_X10_back1 : CB yX10_back1 cX10_back1 1 none 0 := ⟨tb_in 1876 (by decide +kernel) (by decide +kernel), tb_in 10 (by decide +kernel) (by decide +kernel), by decide +kernel⟩
theorem ml_X10_332 : Cond.methodLink RX10 332 yX10_back1 ∈ tb := tb_in 1873 (by decide +kernel) (by decide +kernel)
theorem im_X10_back1 : Cond.instanceMethod yX10_back1 ∈ tb := tb_in 1875 (by decide +kernel) (by decide +kernel)
theorem se_X10_back1 : Cond.selects (yX10_back1).cls yX10_back1 yX10_back1 ∈ tb := tb_sel 57 (by decide +kernel) (by decide +kernel)
theorem e_X10_all_30 : DC cX10_all 30 1 31 (.lload_n 2) := ⟨by decide +kernel, rfl⟩
theorem e_X10_all_31 : DC cX10_all 31 1 32 (.lreturn) := ⟨by decide +kernel, rfl⟩
theorem e_X10_peak_40 : DC cX10_peak 40 2 42 (.iload 5) := ⟨by decide +kernel, rfl⟩
theorem e_X10_peak_42 : DC cX10_peak 42 2 44 (.bipush 72) := ⟨by decide +kernel, rfl⟩
theorem e_X10_peak_44 : DJ cX10_peak 44 105 47 (.if_icmp .ge) := DJ.mk 61 (by decide +kernel) (by decide) rfl
theorem e_X10_peak_105 : DC cX10_peak 105 1 106 (.aload_n 0) := ⟨by decide +kernel, rfl⟩
theorem e_X10_peak_106 : DC cX10_peak 106 3 109 (.invokevirtual 332) := ⟨by decide +kernel, rfl⟩
theorem e_X10_peak_109 : DC cX10_peak 109 2 111 (.iload 4) := ⟨by decide +kernel, rfl⟩
theorem e_X10_peak_111 : DC cX10_peak 111 2 113 (.bipush (-2)) := ⟨by decide +kernel, rfl⟩
theorem e_X10_peak_113 : DJ cX10_peak 113 120 116 (.if_icmp .eq) := DJ.mk 7 (by decide +kernel) (by decide) rfl
theorem e_X10_peak_120 : DC cX10_peak 120 2 122 (.iload 4) := ⟨by decide +kernel, rfl⟩
theorem e_X10_peak_122 : DC cX10_peak 122 1 123 (.i2l) := ⟨by decide +kernel, rfl⟩
theorem e_X10_peak_123 : DJ cX10_peak 123 127 126 .goto := DJ.mk 4 (by decide +kernel) (by decide) rfl
theorem e_X10_peak_127 : DC cX10_peak 127 1 128 (.lreturn) := ⟨by decide +kernel, rfl⟩
theorem e_X10_peak_47 : DC cX10_peak 47 1 48 (.aload_n 0) := ⟨by decide +kernel, rfl⟩
theorem e_X10_peak_48 : DC cX10_peak 48 3 51 (.getfield 59) := ⟨by decide +kernel, rfl⟩
theorem e_X10_peak_51 : DC cX10_peak 51 3 54 (.sipush 744) := ⟨by decide +kernel, rfl⟩
theorem e_X10_peak_54 : DC cX10_peak 54 1 55 (.laload) := ⟨by decide +kernel, rfl⟩
theorem e_X10_peak_55 : DC cX10_peak 55 3 58 (.ldc2_w 284) := ⟨by decide +kernel, rfl⟩
theorem e_X10_peak_58 : DC cX10_peak 58 1 59 (.lcmp) := ⟨by decide +kernel, rfl⟩
theorem e_X10_peak_59 : DJ cX10_peak 59 105 62 (.ifCond .ge) := DJ.mk 46 (by decide +kernel) (by decide) rfl
theorem e_X10_peak_62 : DC cX10_peak 62 1 63 (.aload_n 0) := ⟨by decide +kernel, rfl⟩
theorem e_X10_peak_63 : DC cX10_peak 63 3 66 (.invokevirtual 343) := ⟨by decide +kernel, rfl⟩
theorem cb_X10_paidAll : CB yX10_paidAll cX10_paidAll 4 (some .long) 0 := ⟨tb_in 1908 (by decide +kernel) (by decide +kernel), tb_in 10 (by decide +kernel) (by decide +kernel), by decide +kernel⟩
theorem ml_X10_343 : Cond.methodLink RX10 343 yX10_paidAll ∈ tb := tb_in 1905 (by decide +kernel) (by decide +kernel)
theorem im_X10_paidAll : Cond.instanceMethod yX10_paidAll ∈ tb := tb_in 1907 (by decide +kernel) (by decide +kernel)
theorem se_X10_paidAll : Cond.selects (yX10_paidAll).cls yX10_paidAll yX10_paidAll ∈ tb := tb_sel 59 (by decide +kernel) (by decide +kernel)
theorem e_X10_peak_66 : DC cX10_peak 66 2 68 (.lstore 6) := ⟨by decide +kernel, rfl⟩
theorem e_X10_peak_68 : DC cX10_peak 68 1 69 (.aload_n 0) := ⟨by decide +kernel, rfl⟩
theorem e_X10_peak_69 : DC cX10_peak 69 3 72 (.invokevirtual 289) := ⟨by decide +kernel, rfl⟩
theorem e_X10_peak_72 : DC cX10_peak 72 1 73 (.aload_n 0) := ⟨by decide +kernel, rfl⟩
theorem e_X10_peak_73 : DC cX10_peak 73 3 76 (.invokevirtual 343) := ⟨by decide +kernel, rfl⟩
theorem e_X10_peak_76 : DC cX10_peak 76 2 78 (.lload 6) := ⟨by decide +kernel, rfl⟩
theorem e_X10_peak_78 : DC cX10_peak 78 1 79 (.lsub) := ⟨by decide +kernel, rfl⟩
theorem e_X10_peak_79 : DC cX10_peak 79 1 80 (.lload_n 2) := ⟨by decide +kernel, rfl⟩
theorem e_X10_peak_80 : DC cX10_peak 80 1 81 (.lcmp) := ⟨by decide +kernel, rfl⟩
theorem e_X10_peak_81 : DJ cX10_peak 81 87 84 (.ifCond .gt) := DJ.mk 6 (by decide +kernel) (by decide) rfl
theorem e_X10_peak_84 : DJ cX10_peak 84 99 87 .goto := DJ.mk 15 (by decide +kernel) (by decide) rfl
theorem e_X10_peak_99 : DC cX10_peak 99 3 102 (.iinc 5 1) := ⟨by decide +kernel, rfl⟩
theorem e_X10_peak_102 : DJ cX10_peak 102 40 105 .goto := DJ.mk (-62) (by decide +kernel) (by decide) rfl
theorem e_X10_peak_0 : DC cX10_peak 0 1 1 (.aload_n 0) := ⟨by decide +kernel, rfl⟩
theorem e_X10_peak_1 : DC cX10_peak 1 1 2 (.iconst 0) := ⟨by decide +kernel, rfl⟩
theorem e_X10_peak_2 : DC cX10_peak 2 3 5 (.putfield 91) := ⟨by decide +kernel, rfl⟩
theorem e_X10_peak_5 : DC cX10_peak 5 1 6 (.iload_n 1) := ⟨by decide +kernel, rfl⟩
theorem e_X10_peak_6 : DJ cX10_peak 6 14 9 (.ifCond .lt) := DJ.mk 8 (by decide +kernel) (by decide) rfl
theorem e_X10_peak_14 : DC cX10_peak 14 3 17 (.ldc2_w 245) := ⟨by decide +kernel, rfl⟩
theorem e_X10_peak_17 : DC cX10_peak 17 1 18 (.lreturn) := ⟨by decide +kernel, rfl⟩
theorem e_X10_peak_9 : DC cX10_peak 9 1 10 (.iload_n 1) := ⟨by decide +kernel, rfl⟩
theorem e_X10_peak_10 : DC cX10_peak 10 1 11 (.iconst 1) := ⟨by decide +kernel, rfl⟩
theorem e_X10_peak_11 : DJ cX10_peak 11 18 14 (.if_icmp .le) := DJ.mk 7 (by decide +kernel) (by decide) rfl
theorem e_X10_peak_18 : DC cX10_peak 18 1 19 (.aload_n 0) := ⟨by decide +kernel, rfl⟩
theorem e_X10_peak_19 : DC cX10_peak 19 3 22 (.getfield 59) := ⟨by decide +kernel, rfl⟩
theorem e_X10_peak_22 : DC cX10_peak 22 1 23 (.iconst 0) := ⟨by decide +kernel, rfl⟩
theorem e_X10_peak_23 : DC cX10_peak 23 1 24 (.aload_n 0) := ⟨by decide +kernel, rfl⟩
theorem e_X10_peak_24 : DC cX10_peak 24 3 27 (.getfield 63) := ⟨by decide +kernel, rfl⟩
theorem e_X10_peak_27 : DC cX10_peak 27 1 28 (.iconst 0) := ⟨by decide +kernel, rfl⟩
theorem e_X10_peak_28 : DC cX10_peak 28 3 31 (.invokestatic 230) := ⟨by decide +kernel, rfl⟩
theorem e_X10_peak_31 : DC cX10_peak 31 1 32 (.lconst 0) := ⟨by decide +kernel, rfl⟩
theorem e_X10_peak_32 : DC cX10_peak 32 1 33 (.lstore_n 2) := ⟨by decide +kernel, rfl⟩
theorem e_X10_peak_33 : DC cX10_peak 33 2 35 (.bipush (-2)) := ⟨by decide +kernel, rfl⟩
theorem e_X10_peak_35 : DC cX10_peak 35 2 37 (.istore 4) := ⟨by decide +kernel, rfl⟩
theorem e_X10_peak_37 : DC cX10_peak 37 1 38 (.iconst 0) := ⟨by decide +kernel, rfl⟩
theorem e_X10_peak_38 : DC cX10_peak 38 2 40 (.istore 5) := ⟨by decide +kernel, rfl⟩
theorem e_X10_cash_0 : DC cX10_cash 0 1 1 (.aload_n 0) := ⟨by decide +kernel, rfl⟩
theorem e_X10_cash_1 : DC cX10_cash 1 1 2 (.iconst 0) := ⟨by decide +kernel, rfl⟩
theorem e_X10_cash_2 : DC cX10_cash 2 3 5 (.putfield 91) := ⟨by decide +kernel, rfl⟩
theorem e_X10_cash_5 : DC cX10_cash 5 1 6 (.iload_n 1) := ⟨by decide +kernel, rfl⟩
theorem e_X10_cash_6 : DJ cX10_cash 6 20 9 (.ifCond .lt) := DJ.mk 14 (by decide +kernel) (by decide) rfl
theorem e_X10_cash_20 : DC cX10_cash 20 3 23 (.ldc2_w 245) := ⟨by decide +kernel, rfl⟩
theorem e_X10_cash_23 : DC cX10_cash 23 1 24 (.lreturn) := ⟨by decide +kernel, rfl⟩
theorem e_X10_cash_9 : DC cX10_cash 9 1 10 (.iload_n 2) := ⟨by decide +kernel, rfl⟩
theorem e_X10_cash_10 : DC cX10_cash 10 2 12 (.bipush 71) := ⟨by decide +kernel, rfl⟩
theorem e_X10_cash_12 : DJ cX10_cash 12 20 15 (.if_icmp .gt) := DJ.mk 8 (by decide +kernel) (by decide) rfl
theorem e_X10_cash_15 : DC cX10_cash 15 1 16 (.iload_n 1) := ⟨by decide +kernel, rfl⟩
theorem e_X10_cash_16 : DC cX10_cash 16 1 17 (.iload_n 2) := ⟨by decide +kernel, rfl⟩
theorem e_X10_cash_17 : DJ cX10_cash 17 24 20 (.if_icmp .le) := DJ.mk 7 (by decide +kernel) (by decide) rfl
theorem e_X10_cash_24 : DC cX10_cash 24 1 25 (.aload_n 0) := ⟨by decide +kernel, rfl⟩
theorem e_X10_cash_25 : DC cX10_cash 25 1 26 (.iload_n 1) := ⟨by decide +kernel, rfl⟩
theorem e_X10_cash_26 : DC cX10_cash 26 3 29 (.invokevirtual 329) := ⟨by decide +kernel, rfl⟩
theorem e_X10_cash_29 : DC cX10_cash 29 1 30 (.aload_n 0) := ⟨by decide +kernel, rfl⟩
theorem e_X10_cash_30 : DC cX10_cash 30 3 33 (.invokevirtual 343) := ⟨by decide +kernel, rfl⟩
theorem e_X10_cash_33 : DC cX10_cash 33 1 34 (.lstore_n 3) := ⟨by decide +kernel, rfl⟩
theorem e_X10_cash_34 : DC cX10_cash 34 1 35 (.aload_n 0) := ⟨by decide +kernel, rfl⟩
theorem e_X10_cash_35 : DC cX10_cash 35 3 38 (.invokevirtual 332) := ⟨by decide +kernel, rfl⟩
theorem e_X10_cash_38 : DC cX10_cash 38 1 39 (.aload_n 0) := ⟨by decide +kernel, rfl⟩
theorem e_X10_cash_39 : DC cX10_cash 39 1 40 (.iload_n 2) := ⟨by decide +kernel, rfl⟩
theorem e_X10_cash_40 : DC cX10_cash 40 1 41 (.iconst 1) := ⟨by decide +kernel, rfl⟩
theorem e_X10_cash_41 : DC cX10_cash 41 1 42 (.iadd) := ⟨by decide +kernel, rfl⟩
theorem e_X10_cash_42 : DC cX10_cash 42 3 45 (.invokevirtual 329) := ⟨by decide +kernel, rfl⟩
theorem e_X10_cash_45 : DC cX10_cash 45 1 46 (.aload_n 0) := ⟨by decide +kernel, rfl⟩
theorem e_X10_cash_46 : DC cX10_cash 46 3 49 (.invokevirtual 343) := ⟨by decide +kernel, rfl⟩
theorem e_X10_cash_49 : DC cX10_cash 49 2 51 (.lstore 5) := ⟨by decide +kernel, rfl⟩
theorem e_X10_cash_51 : DC cX10_cash 51 1 52 (.aload_n 0) := ⟨by decide +kernel, rfl⟩
theorem e_X10_cash_52 : DC cX10_cash 52 3 55 (.invokevirtual 332) := ⟨by decide +kernel, rfl⟩
theorem e_X10_cash_55 : DC cX10_cash 55 2 57 (.lload 5) := ⟨by decide +kernel, rfl⟩
theorem e_X10_cash_57 : DC cX10_cash 57 1 58 (.lload_n 3) := ⟨by decide +kernel, rfl⟩
theorem e_X10_cash_58 : DC cX10_cash 58 1 59 (.lsub) := ⟨by decide +kernel, rfl⟩
theorem e_X10_cash_59 : DC cX10_cash 59 1 60 (.lreturn) := ⟨by decide +kernel, rfl⟩
set_option maxRecDepth 20000 in
theorem lp_feed0 {V : VX} {X : MX} {N : Nat} {σ : Mem} {Post : Option Value → Mem → Prop} (F : Fx V X yX10_feed cX10_feed 8 (some .int) (rmd 0 0 0)) (hQ : Rt V X 0 0 N Post) {m : Nat} {a b c d e : Int32} (h_obj : σ m = some (ob 8 [.int 0, .ref (m + 1), .int 0, .ref (m + 2), .ref (m + 3), .ref (m + 4), .ref (m + 5), .ref (m + 6), .ref (m + 7), .ref (m + 8), .ref (m + 9), .ref (m + 10), .ref (m + 11), .ref (m + 12), .ref (m + 13), .ref (m + 14), .ref (m + 15), .int 0, .int 0, .int 0, .int 0, .int 0, .int 0, .int 0, .int 0, .int 0, .int (-1), .ref (m + 16), .ref (m + 17), .ref (m + 18), .ref (m + 19), .ref (m + 20), .int 0, .int 0, .ref (m + 21), .ref (m + 22), .int 0])) (hp : ∀ τ, Post (some (.int 20)) τ) : ∀ (n i : Nat) (f : Nat → Int32), i ≤ 20 → 20 - i < n → Wm V X 8 N (va_up σ (m + 1) (some (aI V 700 f))) 0 0 20 [(6, .int (nI i)), (0, .ref m), (1, .int a), (2, .int b), (3, .int c), (4, .int d), (5, .int e)] [] := by
  intro n
  induction n with
  | zero => intro i f h1 h2; exact absurd h2 (by omega)
  | succ n ih =>
    intro i f h1 h2
    refine m_iload F rfl e_X10_feed_20 ?_
    refine m_bipush F (v := 20) (by decide) e_X10_feed_22 ?_
    refine m_icmp_ge F e_X10_feed_24 (fun q24 => ?_) (fun q24 => ?_)
    · have c24 : i ≥ 20 := (nI_leI (a := 20) (b := i) (by omega) (by omega)).mp q24
      refine m_aload_n F rfl e_X10_feed_110 ?_
      refine m_dup F rfl e_X10_feed_111 ?_
      refine m_get F e_X10_feed_112 fl_X10_94 (ru_ne (by omega) h_obj) rfl ?_
      refine m_bipush F (v := 20) (by decide) e_X10_feed_115 ?_
      refine m_iadd F e_X10_feed_117 ?_
      refine Wm.topE (w := 20) (by decide) ?_
      refine m_put F e_X10_feed_118 fp_X10_94 (ru_ne (by omega) h_obj) rfl rfl (Nat.le_of_ble_eq_true rfl) (fs' := [.int 0, .ref (m + 1), .int 20, .ref (m + 2), .ref (m + 3), .ref (m + 4), .ref (m + 5), .ref (m + 6), .ref (m + 7), .ref (m + 8), .ref (m + 9), .ref (m + 10), .ref (m + 11), .ref (m + 12), .ref (m + 13), .ref (m + 14), .ref (m + 15), .int 0, .int 0, .int 0, .int 0, .int 0, .int 0, .int 0, .int 0, .int 0, .int (-1), .ref (m + 16), .ref (m + 17), .ref (m + 18), .ref (m + 19), .ref (m + 20), .int 0, .int 0, .ref (m + 21), .ref (m + 22), .int 0]) rfl rfl ?_
      refine m_aload_n F rfl e_X10_feed_121 ?_
      refine m_get F e_X10_feed_122 fl_X10_94 ru_eq rfl ?_
      exact m_iret F hQ e_X10_feed_125 (hp _)
    · have c24 : i < 20 := by have hh := mt (nI_leI (a := 20) (b := i) (by omega) (by omega)).mpr q24; omega
      refine m_iload F rfl e_X10_feed_27 ?_
      refine m_iconst F (v := 4) (by decide) e_X10_feed_29 ?_
      refine m_icmp_ge F e_X10_feed_30 (fun q30 => ?_) (fun q30 => ?_)
      · have c30 : i ≥ 4 := (nI_leI (a := 4) (b := i) (by omega) (by omega)).mp q30
        refine m_iload F rfl e_X10_feed_37 ?_
        refine m_bipush F (v := 8) (by decide) e_X10_feed_39 ?_
        refine m_icmp_ge F e_X10_feed_41 (fun q41 => ?_) (fun q41 => ?_)
        · have c41 : i ≥ 8 := (nI_leI (a := 8) (b := i) (by omega) (by omega)).mp q41
          refine m_iload F rfl e_X10_feed_48 ?_
          refine m_bipush F (v := 12) (by decide) e_X10_feed_50 ?_
          refine m_icmp_ge F e_X10_feed_52 (fun q52 => ?_) (fun q52 => ?_)
          · have c52 : i ≥ 12 := (nI_leI (a := 12) (b := i) (by omega) (by omega)).mp q52
            refine m_iload F rfl e_X10_feed_59 ?_
            refine m_bipush F (v := 16) (by decide) e_X10_feed_61 ?_
            refine m_icmp_ge F e_X10_feed_63 (fun q63 => ?_) (fun q63 => ?_)
            · have c63 : i ≥ 16 := (nI_leI (a := 16) (b := i) (by omega) (by omega)).mp q63
              refine m_iload F rfl e_X10_feed_71 ?_
              refine m_istore F (lv' := [(7, .int e), (6, .int (nI i)), (0, .ref m), (1, .int a), (2, .int b), (3, .int c), (4, .int d), (5, .int e)]) e_X10_feed_73 (by decide) rfl ?_
              refine m_aload_n F rfl e_X10_feed_75 ?_
              refine m_get F e_X10_feed_76 fl_X10_7 (ru_ne (by omega) h_obj) rfl ?_
              refine m_aload_n F rfl e_X10_feed_79 ?_
              refine m_get F e_X10_feed_80 fl_X10_94 (ru_ne (by omega) h_obj) rfl ?_
              refine m_iload F rfl e_X10_feed_83 ?_
              refine m_iadd F e_X10_feed_85 ?_
              refine Wm.topE (w := nI (0 + i)) (nI_add 0 i) ?_
              refine m_iload F rfl e_X10_feed_86 ?_
              refine m_bipush F (v := 24) (by decide) e_X10_feed_88 ?_
              refine m_bipush F (v := 8) (by decide) e_X10_feed_90 ?_
              refine m_iload F rfl e_X10_feed_92 ?_
              refine m_iconst F (v := 4) (by decide) e_X10_feed_94 ?_
              refine m_irem F (by decide) e_X10_feed_95 ?_
              refine m_imul F e_X10_feed_96 ?_
              refine m_isub F e_X10_feed_97 ?_
              refine m_ishr F e_X10_feed_98 ?_
              refine m_sipush F (v := 255) (by decide) e_X10_feed_99 ?_
              refine m_iand F e_X10_feed_102 ?_
              refine m_iast F (j := 0 + i) e_X10_feed_103 ru_eq (nI_clamp (by omega)) (vp_in_nI (by omega) (by omega)) rfl (bx_uu _ _ _ _) ?_
              refine m_iinc F (v := nI (i + 1)) (lv' := [(6, .int (nI (i + 1))), (7, .int e), (0, .ref m), (1, .int a), (2, .int b), (3, .int c), (4, .int d), (5, .int e)]) e_X10_feed_104 rfl (nI_add i 1) (by decide) rfl ?_
              refine m_goto F e_X10_feed_107 ?_
              refine Wm.lvsub (lv' := [(6, .int (nI (i + 1))), (0, .ref m), (1, .int a), (2, .int b), (3, .int c), (4, .int d), (5, .int e)]) ?_ [0, 2, 3, 4, 5, 6, 7] rfl
              exact ih (i + 1) _ (by omega) (by omega)
            · have c63 : i < 16 := by have hh := mt (nI_leI (a := 16) (b := i) (by omega) (by omega)).mpr q63; omega
              refine m_iload F rfl e_X10_feed_66 ?_
              refine m_goto F e_X10_feed_68 ?_
              refine m_istore F (lv' := [(7, .int d), (6, .int (nI i)), (0, .ref m), (1, .int a), (2, .int b), (3, .int c), (4, .int d), (5, .int e)]) e_X10_feed_73 (by decide) rfl ?_
              refine m_aload_n F rfl e_X10_feed_75 ?_
              refine m_get F e_X10_feed_76 fl_X10_7 (ru_ne (by omega) h_obj) rfl ?_
              refine m_aload_n F rfl e_X10_feed_79 ?_
              refine m_get F e_X10_feed_80 fl_X10_94 (ru_ne (by omega) h_obj) rfl ?_
              refine m_iload F rfl e_X10_feed_83 ?_
              refine m_iadd F e_X10_feed_85 ?_
              refine Wm.topE (w := nI (0 + i)) (nI_add 0 i) ?_
              refine m_iload F rfl e_X10_feed_86 ?_
              refine m_bipush F (v := 24) (by decide) e_X10_feed_88 ?_
              refine m_bipush F (v := 8) (by decide) e_X10_feed_90 ?_
              refine m_iload F rfl e_X10_feed_92 ?_
              refine m_iconst F (v := 4) (by decide) e_X10_feed_94 ?_
              refine m_irem F (by decide) e_X10_feed_95 ?_
              refine m_imul F e_X10_feed_96 ?_
              refine m_isub F e_X10_feed_97 ?_
              refine m_ishr F e_X10_feed_98 ?_
              refine m_sipush F (v := 255) (by decide) e_X10_feed_99 ?_
              refine m_iand F e_X10_feed_102 ?_
              refine m_iast F (j := 0 + i) e_X10_feed_103 ru_eq (nI_clamp (by omega)) (vp_in_nI (by omega) (by omega)) rfl (bx_uu _ _ _ _) ?_
              refine m_iinc F (v := nI (i + 1)) (lv' := [(6, .int (nI (i + 1))), (7, .int d), (0, .ref m), (1, .int a), (2, .int b), (3, .int c), (4, .int d), (5, .int e)]) e_X10_feed_104 rfl (nI_add i 1) (by decide) rfl ?_
              refine m_goto F e_X10_feed_107 ?_
              refine Wm.lvsub (lv' := [(6, .int (nI (i + 1))), (0, .ref m), (1, .int a), (2, .int b), (3, .int c), (4, .int d), (5, .int e)]) ?_ [0, 2, 3, 4, 5, 6, 7] rfl
              exact ih (i + 1) _ (by omega) (by omega)
          · have c52 : i < 12 := by have hh := mt (nI_leI (a := 12) (b := i) (by omega) (by omega)).mpr q52; omega
            refine m_iload_n F rfl e_X10_feed_55 ?_
            refine m_goto F e_X10_feed_56 ?_
            refine m_istore F (lv' := [(7, .int c), (6, .int (nI i)), (0, .ref m), (1, .int a), (2, .int b), (3, .int c), (4, .int d), (5, .int e)]) e_X10_feed_73 (by decide) rfl ?_
            refine m_aload_n F rfl e_X10_feed_75 ?_
            refine m_get F e_X10_feed_76 fl_X10_7 (ru_ne (by omega) h_obj) rfl ?_
            refine m_aload_n F rfl e_X10_feed_79 ?_
            refine m_get F e_X10_feed_80 fl_X10_94 (ru_ne (by omega) h_obj) rfl ?_
            refine m_iload F rfl e_X10_feed_83 ?_
            refine m_iadd F e_X10_feed_85 ?_
            refine Wm.topE (w := nI (0 + i)) (nI_add 0 i) ?_
            refine m_iload F rfl e_X10_feed_86 ?_
            refine m_bipush F (v := 24) (by decide) e_X10_feed_88 ?_
            refine m_bipush F (v := 8) (by decide) e_X10_feed_90 ?_
            refine m_iload F rfl e_X10_feed_92 ?_
            refine m_iconst F (v := 4) (by decide) e_X10_feed_94 ?_
            refine m_irem F (by decide) e_X10_feed_95 ?_
            refine m_imul F e_X10_feed_96 ?_
            refine m_isub F e_X10_feed_97 ?_
            refine m_ishr F e_X10_feed_98 ?_
            refine m_sipush F (v := 255) (by decide) e_X10_feed_99 ?_
            refine m_iand F e_X10_feed_102 ?_
            refine m_iast F (j := 0 + i) e_X10_feed_103 ru_eq (nI_clamp (by omega)) (vp_in_nI (by omega) (by omega)) rfl (bx_uu _ _ _ _) ?_
            refine m_iinc F (v := nI (i + 1)) (lv' := [(6, .int (nI (i + 1))), (7, .int c), (0, .ref m), (1, .int a), (2, .int b), (3, .int c), (4, .int d), (5, .int e)]) e_X10_feed_104 rfl (nI_add i 1) (by decide) rfl ?_
            refine m_goto F e_X10_feed_107 ?_
            refine Wm.lvsub (lv' := [(6, .int (nI (i + 1))), (0, .ref m), (1, .int a), (2, .int b), (3, .int c), (4, .int d), (5, .int e)]) ?_ [0, 2, 3, 4, 5, 6, 7] rfl
            exact ih (i + 1) _ (by omega) (by omega)
        · have c41 : i < 8 := by have hh := mt (nI_leI (a := 8) (b := i) (by omega) (by omega)).mpr q41; omega
          refine m_iload_n F rfl e_X10_feed_44 ?_
          refine m_goto F e_X10_feed_45 ?_
          refine m_istore F (lv' := [(7, .int b), (6, .int (nI i)), (0, .ref m), (1, .int a), (2, .int b), (3, .int c), (4, .int d), (5, .int e)]) e_X10_feed_73 (by decide) rfl ?_
          refine m_aload_n F rfl e_X10_feed_75 ?_
          refine m_get F e_X10_feed_76 fl_X10_7 (ru_ne (by omega) h_obj) rfl ?_
          refine m_aload_n F rfl e_X10_feed_79 ?_
          refine m_get F e_X10_feed_80 fl_X10_94 (ru_ne (by omega) h_obj) rfl ?_
          refine m_iload F rfl e_X10_feed_83 ?_
          refine m_iadd F e_X10_feed_85 ?_
          refine Wm.topE (w := nI (0 + i)) (nI_add 0 i) ?_
          refine m_iload F rfl e_X10_feed_86 ?_
          refine m_bipush F (v := 24) (by decide) e_X10_feed_88 ?_
          refine m_bipush F (v := 8) (by decide) e_X10_feed_90 ?_
          refine m_iload F rfl e_X10_feed_92 ?_
          refine m_iconst F (v := 4) (by decide) e_X10_feed_94 ?_
          refine m_irem F (by decide) e_X10_feed_95 ?_
          refine m_imul F e_X10_feed_96 ?_
          refine m_isub F e_X10_feed_97 ?_
          refine m_ishr F e_X10_feed_98 ?_
          refine m_sipush F (v := 255) (by decide) e_X10_feed_99 ?_
          refine m_iand F e_X10_feed_102 ?_
          refine m_iast F (j := 0 + i) e_X10_feed_103 ru_eq (nI_clamp (by omega)) (vp_in_nI (by omega) (by omega)) rfl (bx_uu _ _ _ _) ?_
          refine m_iinc F (v := nI (i + 1)) (lv' := [(6, .int (nI (i + 1))), (7, .int b), (0, .ref m), (1, .int a), (2, .int b), (3, .int c), (4, .int d), (5, .int e)]) e_X10_feed_104 rfl (nI_add i 1) (by decide) rfl ?_
          refine m_goto F e_X10_feed_107 ?_
          refine Wm.lvsub (lv' := [(6, .int (nI (i + 1))), (0, .ref m), (1, .int a), (2, .int b), (3, .int c), (4, .int d), (5, .int e)]) ?_ [0, 2, 3, 4, 5, 6, 7] rfl
          exact ih (i + 1) _ (by omega) (by omega)
      · have c30 : i < 4 := by have hh := mt (nI_leI (a := 4) (b := i) (by omega) (by omega)).mpr q30; omega
        refine m_iload_n F rfl e_X10_feed_33 ?_
        refine m_goto F e_X10_feed_34 ?_
        refine m_istore F (lv' := [(7, .int a), (6, .int (nI i)), (0, .ref m), (1, .int a), (2, .int b), (3, .int c), (4, .int d), (5, .int e)]) e_X10_feed_73 (by decide) rfl ?_
        refine m_aload_n F rfl e_X10_feed_75 ?_
        refine m_get F e_X10_feed_76 fl_X10_7 (ru_ne (by omega) h_obj) rfl ?_
        refine m_aload_n F rfl e_X10_feed_79 ?_
        refine m_get F e_X10_feed_80 fl_X10_94 (ru_ne (by omega) h_obj) rfl ?_
        refine m_iload F rfl e_X10_feed_83 ?_
        refine m_iadd F e_X10_feed_85 ?_
        refine Wm.topE (w := nI (0 + i)) (nI_add 0 i) ?_
        refine m_iload F rfl e_X10_feed_86 ?_
        refine m_bipush F (v := 24) (by decide) e_X10_feed_88 ?_
        refine m_bipush F (v := 8) (by decide) e_X10_feed_90 ?_
        refine m_iload F rfl e_X10_feed_92 ?_
        refine m_iconst F (v := 4) (by decide) e_X10_feed_94 ?_
        refine m_irem F (by decide) e_X10_feed_95 ?_
        refine m_imul F e_X10_feed_96 ?_
        refine m_isub F e_X10_feed_97 ?_
        refine m_ishr F e_X10_feed_98 ?_
        refine m_sipush F (v := 255) (by decide) e_X10_feed_99 ?_
        refine m_iand F e_X10_feed_102 ?_
        refine m_iast F (j := 0 + i) e_X10_feed_103 ru_eq (nI_clamp (by omega)) (vp_in_nI (by omega) (by omega)) rfl (bx_uu _ _ _ _) ?_
        refine m_iinc F (v := nI (i + 1)) (lv' := [(6, .int (nI (i + 1))), (7, .int a), (0, .ref m), (1, .int a), (2, .int b), (3, .int c), (4, .int d), (5, .int e)]) e_X10_feed_104 rfl (nI_add i 1) (by decide) rfl ?_
        refine m_goto F e_X10_feed_107 ?_
        refine Wm.lvsub (lv' := [(6, .int (nI (i + 1))), (0, .ref m), (1, .int a), (2, .int b), (3, .int c), (4, .int d), (5, .int e)]) ?_ [0, 2, 3, 4, 5, 6, 7] rfl
        exact ih (i + 1) _ (by omega) (by omega)
set_option maxRecDepth 20000 in
theorem n_feed (l : Launch) (V : VX) (N : Nat) (σ : Mem) (m : Nat) (a b c d e : Int32) (hZ : MZ V σ m) : Ct l V yX10_feed cX10_feed 8 (some .int) 0 0 0 N σ [.ref m, .int a, .int b, .int c, .int d, .int e] (fun r _ => r = some (.int 20)) := by
  refine Ct.of (by decide) (Nat.le_of_ble_eq_true rfl) [(0, .ref m), (1, .int a), (2, .int b), (3, .int c), (4, .int d), (5, .int e)] rfl (fun X hX F hQ => ?_)
  obtain ⟨z0, z1, z2, z3, z4, z5, z6, z7, z8, z9, z10, z11, z12, z13, z14, z15, z16, z17, z18, z19, z20, z21, z22⟩ := hZ
  refine m_aload_n F rfl e_X10_feed_0 ?_
  refine m_iconst F (v := 0) (by decide) e_X10_feed_1 ?_
  refine m_put F e_X10_feed_2 fp_X10_91 z0 rfl rfl (Nat.le_of_ble_eq_true rfl) (fs' := [.int 0, .ref (m + 1), .int 0, .ref (m + 2), .ref (m + 3), .ref (m + 4), .ref (m + 5), .ref (m + 6), .ref (m + 7), .ref (m + 8), .ref (m + 9), .ref (m + 10), .ref (m + 11), .ref (m + 12), .ref (m + 13), .ref (m + 14), .ref (m + 15), .int 0, .int 0, .int 0, .int 0, .int 0, .int 0, .int 0, .int 0, .int 0, .int (-1), .ref (m + 16), .ref (m + 17), .ref (m + 18), .ref (m + 19), .ref (m + 20), .int 0, .int 0, .ref (m + 21), .ref (m + 22), .int 0]) rfl (up_self z0).symm ?_
  refine m_aload_n F rfl e_X10_feed_5 ?_
  refine m_get F e_X10_feed_6 fl_X10_94 z0 rfl ?_
  refine m_sipush F (v := 680) (by decide) e_X10_feed_9 ?_
  refine m_icmp_le F e_X10_feed_12 (fun _ => ?_) (fun q => absurd (by decide) q)
  refine m_iconst F (v := 0) (by decide) e_X10_feed_17 ?_
  refine m_istore F (lv' := [(6, .int 0), (0, .ref m), (1, .int a), (2, .int b), (3, .int c), (4, .int d), (5, .int e)]) e_X10_feed_18 (by decide) rfl ?_
  refine Wm.memE (up_self z1) ?_
  exact lp_feed0 F hQ z0 (fun _ => rfl) 21 0 _ (by omega) (by omega)
set_option maxRecDepth 20000 in
theorem k_here0 (l : Launch) (V : VX) (N : Nat) (σ : Mem) (m : Nat) (h_obj : σ m = some (ob 8 [.int 0, .ref (m + 1), .int 0, .ref (m + 2), .ref (m + 3), .ref (m + 4), .ref (m + 5), .ref (m + 6), .ref (m + 7), .ref (m + 8), .ref (m + 9), .ref (m + 10), .ref (m + 11), .ref (m + 12), .ref (m + 13), .ref (m + 14), .ref (m + 15), .int 0, .int 0, .int 0, .int 0, .int 0, .int 0, .int 0, .int 0, .int 0, .int (-1), .ref (m + 16), .ref (m + 17), .ref (m + 18), .ref (m + 19), .ref (m + 20), .int 0, .int 0, .ref (m + 21), .ref (m + 22), .int 0])) : Ct l V yX10_here cX10_here 1 (some .int) 0 0 0 N σ [.ref m] (fun r τ => r = some (.int (-1)) ∧ τ = σ) := by
  refine Ct.of (by decide) (Nat.le_of_ble_eq_true rfl) [(0, .ref m)] rfl (fun X hX F hQ => ?_)
  refine m_aload_n F rfl e_X10_here_0 ?_
  refine m_get F e_X10_here_1 fl_X10_97 h_obj rfl ?_
  refine m_aload_n F rfl e_X10_here_4 ?_
  refine m_get F e_X10_here_5 fl_X10_100 h_obj rfl ?_
  refine m_icmp_ge F e_X10_here_8 (fun _ => ?_) (fun q => absurd (by decide) q)
  refine m_iconst F (v := (-1)) (by decide) e_X10_here_23 ?_
  exact m_iret F hQ e_X10_here_24 (⟨rfl, rfl⟩)
set_option maxRecDepth 20000 in
theorem k_token0 (l : Launch) (V : VX) (N : Nat) (σ : Mem) (m : Nat) (h_obj : σ m = some (ob 8 [.int 0, .ref (m + 1), .int 0, .ref (m + 2), .ref (m + 3), .ref (m + 4), .ref (m + 5), .ref (m + 6), .ref (m + 7), .ref (m + 8), .ref (m + 9), .ref (m + 10), .ref (m + 11), .ref (m + 12), .ref (m + 13), .ref (m + 14), .ref (m + 15), .int 0, .int 0, .int 0, .int 0, .int 0, .int 0, .int 0, .int 0, .int 0, .int (-1), .ref (m + 16), .ref (m + 17), .ref (m + 18), .ref (m + 19), .ref (m + 20), .int 0, .int 0, .ref (m + 21), .ref (m + 22), .int 0])) : Ct l V yX10_token cX10_token 2 none 1 0 0 N σ [.ref m] (fun r τ => r = none ∧ τ = va_up σ m (some (ob 8 [.int 0, .ref (m + 1), .int 0, .ref (m + 2), .ref (m + 3), .ref (m + 4), .ref (m + 5), .ref (m + 6), .ref (m + 7), .ref (m + 8), .ref (m + 9), .ref (m + 10), .ref (m + 11), .ref (m + 12), .ref (m + 13), .ref (m + 14), .ref (m + 15), .int 0, .int 0, .int 0, .int 0, .int 4, .int 0, .int 0, .int 0, .int 0, .int (-1), .ref (m + 16), .ref (m + 17), .ref (m + 18), .ref (m + 19), .ref (m + 20), .int 0, .int 0, .ref (m + 21), .ref (m + 22), .int 0]))) := by
  refine Ct.of (by decide) (Nat.le_of_ble_eq_true rfl) [(0, .ref m)] rfl (fun X hX F hQ => ?_)
  refine m_aload_n F rfl e_X10_token_0 ?_
  refine m_callV F e_X10_token_1 (k_here0 (x_l X) V _ _ m h_obj) cb_X10_here ml_X10_103 im_X10_here se_X10_here h_obj rfl rfl (rest := []) rfl (Nat.le_of_ble_eq_true rfl) ⟨Nat.le_of_ble_eq_true rfl, Nat.le_of_ble_eq_true rfl⟩ ⟨Nat.le_of_ble_eq_true rfl, Nat.le_of_ble_eq_true rfl⟩ (k' := 0) (z' := 0) (N' := N) rfl rfl rfl (fun r τ hp => ?_)
  obtain ⟨rfl, rfl⟩ := hp
  refine m_bipush F (v := 10) (by decide) e_X10_token_4 ?_
  refine m_icmp_eq F e_X10_token_6 (fun q => absurd q (by decide)) (fun _ => ?_)
  refine m_aload_n F rfl e_X10_token_9 ?_
  refine m_callV F e_X10_token_10 (k_here0 (x_l X) V _ _ m h_obj) cb_X10_here ml_X10_103 im_X10_here se_X10_here h_obj rfl rfl (rest := []) rfl (Nat.le_of_ble_eq_true rfl) ⟨Nat.le_of_ble_eq_true rfl, Nat.le_of_ble_eq_true rfl⟩ ⟨Nat.le_of_ble_eq_true rfl, Nat.le_of_ble_eq_true rfl⟩ (k' := 0) (z' := 0) (N' := N) rfl rfl rfl (fun r τ hp => ?_)
  obtain ⟨rfl, rfl⟩ := hp
  refine m_bipush F (v := 32) (by decide) e_X10_token_13 ?_
  refine m_icmp_ne F e_X10_token_15 (fun _ => ?_) (fun q => absurd q (by decide))
  refine m_aload_n F rfl e_X10_token_31 ?_
  refine m_aload_n F rfl e_X10_token_32 ?_
  refine m_get F e_X10_token_33 fl_X10_97 h_obj rfl ?_
  refine m_put F e_X10_token_36 fp_X10_107 h_obj rfl rfl (Nat.le_of_ble_eq_true rfl) (fs' := [.int 0, .ref (m + 1), .int 0, .ref (m + 2), .ref (m + 3), .ref (m + 4), .ref (m + 5), .ref (m + 6), .ref (m + 7), .ref (m + 8), .ref (m + 9), .ref (m + 10), .ref (m + 11), .ref (m + 12), .ref (m + 13), .ref (m + 14), .ref (m + 15), .int 0, .int 0, .int 0, .int 0, .int 0, .int 0, .int 0, .int 0, .int 0, .int (-1), .ref (m + 16), .ref (m + 17), .ref (m + 18), .ref (m + 19), .ref (m + 20), .int 0, .int 0, .ref (m + 21), .ref (m + 22), .int 0]) rfl (up_self h_obj).symm ?_
  refine m_aload_n F rfl e_X10_token_39 ?_
  refine m_callV F e_X10_token_40 (k_here0 (x_l X) V _ _ m h_obj) cb_X10_here ml_X10_103 im_X10_here se_X10_here h_obj rfl rfl (rest := []) rfl (Nat.le_of_ble_eq_true rfl) ⟨Nat.le_of_ble_eq_true rfl, Nat.le_of_ble_eq_true rfl⟩ ⟨Nat.le_of_ble_eq_true rfl, Nat.le_of_ble_eq_true rfl⟩ (k' := 0) (z' := 0) (N' := N) rfl rfl rfl (fun r τ hp => ?_)
  obtain ⟨rfl, rfl⟩ := hp
  refine m_istore_n F (lv' := [(1, .int (-1)), (0, .ref m)]) e_X10_token_43 (by decide) rfl ?_
  refine m_iload_n F rfl e_X10_token_44 ?_
  refine m_iconst F (v := (-1)) (by decide) e_X10_token_45 ?_
  refine m_icmp_ne F e_X10_token_46 (fun q => absurd (by decide) q) (fun _ => ?_)
  refine m_aload_n F rfl e_X10_token_49 ?_
  refine m_iconst F (v := 4) (by decide) e_X10_token_50 ?_
  refine m_put F e_X10_token_51 fp_X10_110 h_obj rfl rfl (Nat.le_of_ble_eq_true rfl) (fs' := [.int 0, .ref (m + 1), .int 0, .ref (m + 2), .ref (m + 3), .ref (m + 4), .ref (m + 5), .ref (m + 6), .ref (m + 7), .ref (m + 8), .ref (m + 9), .ref (m + 10), .ref (m + 11), .ref (m + 12), .ref (m + 13), .ref (m + 14), .ref (m + 15), .int 0, .int 0, .int 0, .int 0, .int 4, .int 0, .int 0, .int 0, .int 0, .int (-1), .ref (m + 16), .ref (m + 17), .ref (m + 18), .ref (m + 19), .ref (m + 20), .int 0, .int 0, .ref (m + 21), .ref (m + 22), .int 0]) rfl rfl ?_
  refine m_goto F e_X10_token_54 ?_
  exact m_vret F hQ e_X10_token_245 (⟨rfl, rfl⟩)
set_option maxRecDepth 20000 in
theorem k_readText0 (l : Launch) (V : VX) (N : Nat) (σ : Mem) (m : Nat) (h_obj : σ m = some (ob 8 [.int 0, .ref (m + 1), .int 0, .ref (m + 2), .ref (m + 3), .ref (m + 4), .ref (m + 5), .ref (m + 6), .ref (m + 7), .ref (m + 8), .ref (m + 9), .ref (m + 10), .ref (m + 11), .ref (m + 12), .ref (m + 13), .ref (m + 14), .ref (m + 15), .int 0, .int 0, .int 0, .int 0, .int 0, .int 0, .int 0, .int 0, .int 0, .int (-1), .ref (m + 16), .ref (m + 17), .ref (m + 18), .ref (m + 19), .ref (m + 20), .int 0, .int 0, .ref (m + 21), .ref (m + 22), .int 0])) (h_number : σ (m + 2) = some (aI V 10 (fun _ => 0))) : Ct l V yX10_readText cX10_readText 2 none 3 0 0 N σ [.ref m, .int 0] (fun r τ => r = none ∧ τ = va_up σ m (some (ob 8 [.int 0, .ref (m + 1), .int 0, .ref (m + 2), .ref (m + 3), .ref (m + 4), .ref (m + 5), .ref (m + 6), .ref (m + 7), .ref (m + 8), .ref (m + 9), .ref (m + 10), .ref (m + 11), .ref (m + 12), .ref (m + 13), .ref (m + 14), .ref (m + 15), .int 0, .int 0, .int 0, .int 0, .int 4, .int 0, .int 0, .int 0, .int 0, .int (-1), .ref (m + 16), .ref (m + 17), .ref (m + 18), .ref (m + 19), .ref (m + 20), .int 0, .int 0, .ref (m + 21), .ref (m + 22), .int 0]))) := by
  refine Ct.of (by decide) (Nat.le_of_ble_eq_true rfl) [(0, .ref m), (1, .int 0)] rfl (fun X hX F hQ => ?_)
  refine m_aload_n F rfl e_X10_readText_0 ?_
  refine m_iload_n F rfl e_X10_readText_1 ?_
  refine m_put F e_X10_readText_2 fp_X10_100 h_obj rfl rfl (Nat.le_of_ble_eq_true rfl) (fs' := [.int 0, .ref (m + 1), .int 0, .ref (m + 2), .ref (m + 3), .ref (m + 4), .ref (m + 5), .ref (m + 6), .ref (m + 7), .ref (m + 8), .ref (m + 9), .ref (m + 10), .ref (m + 11), .ref (m + 12), .ref (m + 13), .ref (m + 14), .ref (m + 15), .int 0, .int 0, .int 0, .int 0, .int 0, .int 0, .int 0, .int 0, .int 0, .int (-1), .ref (m + 16), .ref (m + 17), .ref (m + 18), .ref (m + 19), .ref (m + 20), .int 0, .int 0, .ref (m + 21), .ref (m + 22), .int 0]) rfl (up_self h_obj).symm ?_
  refine m_aload_n F rfl e_X10_readText_5 ?_
  refine m_iconst F (v := 0) (by decide) e_X10_readText_6 ?_
  refine m_put F e_X10_readText_7 fp_X10_97 h_obj rfl rfl (Nat.le_of_ble_eq_true rfl) (fs' := [.int 0, .ref (m + 1), .int 0, .ref (m + 2), .ref (m + 3), .ref (m + 4), .ref (m + 5), .ref (m + 6), .ref (m + 7), .ref (m + 8), .ref (m + 9), .ref (m + 10), .ref (m + 11), .ref (m + 12), .ref (m + 13), .ref (m + 14), .ref (m + 15), .int 0, .int 0, .int 0, .int 0, .int 0, .int 0, .int 0, .int 0, .int 0, .int (-1), .ref (m + 16), .ref (m + 17), .ref (m + 18), .ref (m + 19), .ref (m + 20), .int 0, .int 0, .ref (m + 21), .ref (m + 22), .int 0]) rfl (up_self h_obj).symm ?_
  refine m_aload_n F rfl e_X10_readText_10 ?_
  refine m_iconst F (v := 0) (by decide) e_X10_readText_11 ?_
  refine m_put F e_X10_readText_12 fp_X10_141 h_obj rfl rfl (Nat.le_of_ble_eq_true rfl) (fs' := [.int 0, .ref (m + 1), .int 0, .ref (m + 2), .ref (m + 3), .ref (m + 4), .ref (m + 5), .ref (m + 6), .ref (m + 7), .ref (m + 8), .ref (m + 9), .ref (m + 10), .ref (m + 11), .ref (m + 12), .ref (m + 13), .ref (m + 14), .ref (m + 15), .int 0, .int 0, .int 0, .int 0, .int 0, .int 0, .int 0, .int 0, .int 0, .int (-1), .ref (m + 16), .ref (m + 17), .ref (m + 18), .ref (m + 19), .ref (m + 20), .int 0, .int 0, .ref (m + 21), .ref (m + 22), .int 0]) rfl (up_self h_obj).symm ?_
  refine m_aload_n F rfl e_X10_readText_15 ?_
  refine m_iconst F (v := 0) (by decide) e_X10_readText_16 ?_
  refine m_put F e_X10_readText_17 fp_X10_202 h_obj rfl rfl (Nat.le_of_ble_eq_true rfl) (fs' := [.int 0, .ref (m + 1), .int 0, .ref (m + 2), .ref (m + 3), .ref (m + 4), .ref (m + 5), .ref (m + 6), .ref (m + 7), .ref (m + 8), .ref (m + 9), .ref (m + 10), .ref (m + 11), .ref (m + 12), .ref (m + 13), .ref (m + 14), .ref (m + 15), .int 0, .int 0, .int 0, .int 0, .int 0, .int 0, .int 0, .int 0, .int 0, .int (-1), .ref (m + 16), .ref (m + 17), .ref (m + 18), .ref (m + 19), .ref (m + 20), .int 0, .int 0, .ref (m + 21), .ref (m + 22), .int 0]) rfl (up_self h_obj).symm ?_
  refine m_aload_n F rfl e_X10_readText_20 ?_
  refine m_callV F e_X10_readText_21 (k_freshText0 (x_l X) V _ _ m 0 0 0 0 0 0 0 0 0 0 0 (-1) 0 0 0  h_obj h_number ) cb_X10_freshText ml_X10_82 im_X10_freshText se_X10_freshText h_obj rfl rfl (rest := []) rfl (Nat.le_of_ble_eq_true rfl) ⟨Nat.le_of_ble_eq_true rfl, Nat.le_of_ble_eq_true rfl⟩ ⟨Nat.le_of_ble_eq_true rfl, Nat.le_of_ble_eq_true rfl⟩ (k' := 0) (z' := 0) (N' := N) rfl rfl rfl (fun r τ hp => ?_)
  obtain ⟨rfl, rfl⟩ := hp
  refine m_aload_n F rfl e_X10_readText_24 ?_
  refine m_callV F e_X10_readText_25 (k_token0 (x_l X) V _ _ m h_obj) cb_X10_token ml_X10_147 im_X10_token se_X10_token h_obj rfl rfl (rest := []) rfl (Nat.le_of_ble_eq_true rfl) ⟨Nat.le_of_ble_eq_true rfl, Nat.le_of_ble_eq_true rfl⟩ ⟨Nat.le_of_ble_eq_true rfl, Nat.le_of_ble_eq_true rfl⟩ (k' := 0) (z' := 0) (N' := N) rfl rfl rfl (fun r τ hp => ?_)
  obtain ⟨rfl, rfl⟩ := hp
  refine m_aload_n F rfl e_X10_readText_28 ?_
  refine m_get F e_X10_readText_29 fl_X10_141 ru_eq rfl ?_
  refine m_if_ne F e_X10_readText_32 (fun q => absurd (by decide) q) (fun _ => ?_)
  refine m_aload_n F rfl e_X10_readText_35 ?_
  refine m_get F e_X10_readText_36 fl_X10_110 ru_eq rfl ?_
  refine m_iconst F (v := 4) (by decide) e_X10_readText_39 ?_
  refine m_icmp_eq F e_X10_readText_40 (fun _ => ?_) (fun q => absurd (by decide) q)
  exact m_vret F hQ e_X10_readText_50 (⟨rfl, rfl⟩)
set_option maxRecDepth 20000 in
theorem n_text (l : Launch) (V : VX) (N : Nat) (σ : Mem) (m : Nat) (x : Int32) (hZ : MZ V σ m) : Ct l V yX10_text cX10_text 2 (some .int) 4 0 0 N σ [.ref m, .int x] (fun r _ => r = some (.int (if x < 0 ∨ 0 < x then -2 else 0))) := by
  refine Ct.of (by decide) (Nat.le_of_ble_eq_true rfl) [(0, .ref m), (1, .int x)] rfl (fun X hX F hQ => ?_)
  obtain ⟨z0, z1, z2, z3, z4, z5, z6, z7, z8, z9, z10, z11, z12, z13, z14, z15, z16, z17, z18, z19, z20, z21, z22⟩ := hZ
  refine m_aload_n F rfl e_X10_text_0 ?_
  refine m_iconst F (v := 0) (by decide) e_X10_text_1 ?_
  refine m_put F e_X10_text_2 fp_X10_91 z0 rfl rfl (Nat.le_of_ble_eq_true rfl) (fs' := [.int 0, .ref (m + 1), .int 0, .ref (m + 2), .ref (m + 3), .ref (m + 4), .ref (m + 5), .ref (m + 6), .ref (m + 7), .ref (m + 8), .ref (m + 9), .ref (m + 10), .ref (m + 11), .ref (m + 12), .ref (m + 13), .ref (m + 14), .ref (m + 15), .int 0, .int 0, .int 0, .int 0, .int 0, .int 0, .int 0, .int 0, .int 0, .int (-1), .ref (m + 16), .ref (m + 17), .ref (m + 18), .ref (m + 19), .ref (m + 20), .int 0, .int 0, .ref (m + 21), .ref (m + 22), .int 0]) rfl (up_self z0).symm ?_
  refine m_iload_n F rfl e_X10_text_5 ?_
  refine m_if_lt F e_X10_text_6 (fun q6 => ?_) (fun q6 => ?_)
  · refine m_bipush F (v := (-2)) (by decide) e_X10_text_17 ?_
    exact m_iret F hQ e_X10_text_19 (by rw [if_pos (Or.inl q6)])
  · refine m_iload_n F rfl e_X10_text_9 ?_
    refine m_aload_n F rfl e_X10_text_10 ?_
    refine m_get F e_X10_text_11 fl_X10_94 z0 rfl ?_
    refine m_icmp_le F e_X10_text_14 (fun q14 => ?_) (fun q14 => ?_)
    · have ex : x = 0 := Int32.le_antisymm q14 (Int32.not_lt.mp q6)
      subst ex
      refine m_aload_n F rfl e_X10_text_20 ?_
      refine m_iload_n F rfl e_X10_text_21 ?_
      refine m_callV F e_X10_text_22 (k_readText0 (x_l X) V _ _ m z0 z2) cb_X10_readText ml_X10_208 im_X10_readText se_X10_readText z0 rfl rfl (rest := []) rfl (Nat.le_of_ble_eq_true rfl) ⟨Nat.le_of_ble_eq_true rfl, Nat.le_of_ble_eq_true rfl⟩ ⟨Nat.le_of_ble_eq_true rfl, Nat.le_of_ble_eq_true rfl⟩ (k' := 0) (z' := 0) (N' := N) rfl rfl rfl (fun r τ hp => ?_)
      obtain ⟨rfl, rfl⟩ := hp
      refine m_aload_n F rfl e_X10_text_25 ?_
      refine m_iconst F (v := 0) (by decide) e_X10_text_26 ?_
      refine m_put F e_X10_text_27 fp_X10_94 ru_eq rfl rfl (Nat.le_of_ble_eq_true rfl) (fs' := [.int 0, .ref (m + 1), .int 0, .ref (m + 2), .ref (m + 3), .ref (m + 4), .ref (m + 5), .ref (m + 6), .ref (m + 7), .ref (m + 8), .ref (m + 9), .ref (m + 10), .ref (m + 11), .ref (m + 12), .ref (m + 13), .ref (m + 14), .ref (m + 15), .int 0, .int 0, .int 0, .int 0, .int 4, .int 0, .int 0, .int 0, .int 0, .int (-1), .ref (m + 16), .ref (m + 17), .ref (m + 18), .ref (m + 19), .ref (m + 20), .int 0, .int 0, .ref (m + 21), .ref (m + 22), .int 0]) rfl (up_self ru_eq).symm ?_
      refine m_aload_n F rfl e_X10_text_30 ?_
      refine m_aload_n F rfl e_X10_text_31 ?_
      refine m_get F e_X10_text_32 fl_X10_141 ru_eq rfl ?_
      refine m_put F e_X10_text_35 fp_X10_211 ru_eq rfl rfl (Nat.le_of_ble_eq_true rfl) (fs' := [.int 0, .ref (m + 1), .int 0, .ref (m + 2), .ref (m + 3), .ref (m + 4), .ref (m + 5), .ref (m + 6), .ref (m + 7), .ref (m + 8), .ref (m + 9), .ref (m + 10), .ref (m + 11), .ref (m + 12), .ref (m + 13), .ref (m + 14), .ref (m + 15), .int 0, .int 0, .int 0, .int 0, .int 4, .int 0, .int 0, .int 0, .int 0, .int (-1), .ref (m + 16), .ref (m + 17), .ref (m + 18), .ref (m + 19), .ref (m + 20), .int 0, .int 0, .ref (m + 21), .ref (m + 22), .int 0]) rfl (up_self ru_eq).symm ?_
      refine m_aload_n F rfl e_X10_text_38 ?_
      refine m_aload_n F rfl e_X10_text_39 ?_
      refine m_get F e_X10_text_40 fl_X10_141 ru_eq rfl ?_
      refine m_if_ne F e_X10_text_43 (fun q => absurd (by decide) q) (fun _ => ?_)
      refine m_iconst F (v := (-1)) (by decide) e_X10_text_46 ?_
      refine m_goto F e_X10_text_47 ?_
      refine m_put F e_X10_text_54 fp_X10_55 ru_eq rfl rfl (Nat.le_of_ble_eq_true rfl) (fs' := [.int 0, .ref (m + 1), .int 0, .ref (m + 2), .ref (m + 3), .ref (m + 4), .ref (m + 5), .ref (m + 6), .ref (m + 7), .ref (m + 8), .ref (m + 9), .ref (m + 10), .ref (m + 11), .ref (m + 12), .ref (m + 13), .ref (m + 14), .ref (m + 15), .int 0, .int 0, .int 0, .int 0, .int 4, .int 0, .int 0, .int 0, .int 0, .int (-1), .ref (m + 16), .ref (m + 17), .ref (m + 18), .ref (m + 19), .ref (m + 20), .int 0, .int 0, .ref (m + 21), .ref (m + 22), .int 0]) rfl (up_self ru_eq).symm ?_
      refine m_aload_n F rfl e_X10_text_57 ?_
      refine m_get F e_X10_text_58 fl_X10_141 ru_eq rfl ?_
      refine m_if_eq F e_X10_text_61 (fun _ => ?_) (fun q => absurd (by decide) q)
      refine m_aload_n F rfl e_X10_text_66 ?_
      refine m_callV F e_X10_text_67 (k_takeText0 (x_l X) V _ _ m 0 0 0 0 0 0 4 0 0 0 0 (-1) 0 0 0  ru_eq (ru_ne (by omega) z2) (ru_ne (by omega) z3) (ru_ne (by omega) z4) (ru_ne (by omega) z5) (ru_ne (by omega) z6) (ru_ne (by omega) z7) (ru_ne (by omega) z8) (ru_ne (by omega) z9) (ru_ne (by omega) z10) (ru_ne (by omega) z11) (ru_ne (by omega) z12) (ru_ne (by omega) z13) (ru_ne (by omega) z14) (ru_ne (by omega) z15) ) cb_X10_takeText ml_X10_85 im_X10_takeText se_X10_takeText ru_eq rfl rfl (rest := []) rfl (Nat.le_of_ble_eq_true rfl) ⟨Nat.le_of_ble_eq_true rfl, Nat.le_of_ble_eq_true rfl⟩ ⟨Nat.le_of_ble_eq_true rfl, Nat.le_of_ble_eq_true rfl⟩ (k' := 0) (z' := 0) (N' := N) rfl rfl rfl (fun r τ hp => ?_)
      obtain ⟨rfl, rfl⟩ := hp
      refine m_aload_n F rfl e_X10_text_70 ?_
      refine m_callV F e_X10_text_71 (k_begins0 (x_l X) V _ _ m 0 0 0 0 0 0 4 0 0 0 0 (-1) 0 0 0 sZ ru_eq (ru_ne (by omega) z2) (ru_ne (by omega) z16) ) cb_X10_begins ml_X10_88 im_X10_begins se_X10_begins ru_eq rfl rfl (rest := []) rfl (Nat.le_of_ble_eq_true rfl) ⟨Nat.le_of_ble_eq_true rfl, Nat.le_of_ble_eq_true rfl⟩ ⟨Nat.le_of_ble_eq_true rfl, Nat.le_of_ble_eq_true rfl⟩ (k' := 0) (z' := 0) (N' := N) rfl rfl rfl (fun r τ hp => ?_)
      obtain ⟨rfl, rfl⟩ := hp
      refine m_aload_n F rfl e_X10_text_74 ?_
      refine m_iconst F (v := 0) (by decide) e_X10_text_75 ?_
      refine m_put F e_X10_text_76 fp_X10_214 (ru_ne (by omega) ru_eq) rfl rfl (Nat.le_of_ble_eq_true rfl) (fs' := [.int 0, .ref (m + 1), .int 0, .ref (m + 2), .ref (m + 3), .ref (m + 4), .ref (m + 5), .ref (m + 6), .ref (m + 7), .ref (m + 8), .ref (m + 9), .ref (m + 10), .ref (m + 11), .ref (m + 12), .ref (m + 13), .ref (m + 14), .ref (m + 15), .int 0, .int 0, .int 0, .int 0, .int 4, .int 0, .int 0, .int 0, .int 0, .int (-1), .ref (m + 16), .ref (m + 17), .ref (m + 18), .ref (m + 19), .ref (m + 20), .int 0, .int 0, .ref (m + 21), .ref (m + 22), .int 0]) rfl (up_self (ru_ne (by omega) ru_eq)).symm ?_
      refine m_aload_n F rfl e_X10_text_79 ?_
      refine m_iconst F (v := 0) (by decide) e_X10_text_80 ?_
      refine m_put F e_X10_text_81 fp_X10_217 (ru_ne (by omega) ru_eq) (by decide) rfl (Nat.le_of_ble_eq_true rfl) (fs' := [.int 0, .ref (m + 1), .int 0, .ref (m + 2), .ref (m + 3), .ref (m + 4), .ref (m + 5), .ref (m + 6), .ref (m + 7), .ref (m + 8), .ref (m + 9), .ref (m + 10), .ref (m + 11), .ref (m + 12), .ref (m + 13), .ref (m + 14), .ref (m + 15), .int 0, .int 0, .int 0, .int 0, .int 4, .int 0, .int 0, .int 0, .int 0, .int (-1), .ref (m + 16), .ref (m + 17), .ref (m + 18), .ref (m + 19), .ref (m + 20), .int 0, .int 0, .ref (m + 21), .ref (m + 22), .int 0]) rfl (up_self (ru_ne (by omega) ru_eq)).symm ?_
      refine m_aload_n F rfl e_X10_text_84 ?_
      refine m_get F e_X10_text_85 fl_X10_202 (ru_ne (by omega) ru_eq) rfl ?_
      exact m_iret F hQ e_X10_text_88 (by rw [if_neg (by decide)])
    · refine m_bipush F (v := (-2)) (by decide) e_X10_text_17 ?_
      exact m_iret F hQ e_X10_text_19 (by rw [if_pos (Or.inr (Int32.not_le.mp q14))])
theorem lp_go0 {V : VX} {X : MX} {N : Nat} {Post : Option Value → Mem → Prop} (F : Fx V X yX10_go cX10_go 3 (some .int) (rmd 2 0 0)) (hQ : Rt V X 0 0 N Post) {m k : Nat} (hk : k ≤ 12) (hp : ∀ τ : Mem, Post (some (.int (nI k))) τ) : ∀ (n i : Nat) (τ : Mem), i ≤ k → k - i < n → ME V τ m i 0 0 i 0 0 → Wm V X 3 N τ 0 0 41 [(2, .int (nI i)), (0, .ref m), (1, .int (nI k))] [] := by
  intro n
  induction n with
  | zero => intro i τ h1 h2; exact absurd h2 (by omega)
  | succ n ih =>
    intro i τ h1 h2 hM
    obtain ⟨ho35, hn35, f35, ga35, gf35, gi35, gk35, hs35, ha35, hfu35, him35, hk35, ef35, ea35, eu35⟩ := hM
    refine m_iload_n F rfl e_X10_go_41 ?_
    refine m_iload_n F rfl e_X10_go_42 ?_
    refine m_icmp_ge F e_X10_go_43 (fun q43 => ?_) (fun q43 => ?_)
    · have c43 : i ≥ k := (nI_leI (a := k) (b := i) (by omega) (by omega)).mp q43
      have hi9 : i = k := by omega
      subst hi9
      refine m_aload_n F rfl e_X10_go_60 ?_
      refine m_get F e_X10_go_61 fl_X10_59 ho35 rfl ?_
      refine m_sipush F (v := 744) (by decide) e_X10_go_64 ?_
      refine m_lald F (j := 744) e_X10_go_67 hs35 (by decide) (by unfold vp_in; decide) ?_
      refine Wm.toplE (w := lN i) (ef35) ?_
      refine m_l2i F e_X10_go_68 ?_
      refine Wm.topE (w := nI i) (lN_i i) ?_
      exact m_iret F hQ e_X10_go_69 (hp _)
    · have c43 : i < k := by have hh := mt (nI_leI (a := k) (b := i) (by omega) (by omega)).mpr q43; omega
      refine m_aload_n F rfl e_X10_go_46 ?_
      refine m_callV F e_X10_go_47 (k_remembers0 (x_l X) V _ _ m i 0 0 i 0 0  ⟨ho35, hn35, f35, ga35, gf35, gi35, gk35, hs35, ha35, hfu35, him35, hk35, ef35, ea35, eu35⟩ (by omega)) cb_X10_remembers ml_X10_286 im_X10_remembers se_X10_remembers ho35 rfl rfl (rest := []) rfl (Nat.le_of_ble_eq_true rfl) ⟨Nat.le_of_ble_eq_true rfl, Nat.le_of_ble_eq_true rfl⟩ ⟨Nat.le_of_ble_eq_true rfl, Nat.le_of_ble_eq_true rfl⟩ (k' := 0) (z' := 0) (N' := N) rfl rfl rfl (fun r τ36 hp => ?_)
      obtain ⟨rfl, hp⟩ := hp
      obtain ⟨ho37, hn37, f37, ga37, gf37, gi37, gk37, hs37, ha37, hfu37, him37, hk37, ef37, ea37, eu37⟩ := hp
      refine m_aload_n F rfl e_X10_go_50 ?_
      refine m_callV F e_X10_go_51 (k_periodGoes0 (x_l X) V _ _ m (i + 1) 0 0 i 0 0  ⟨ho37, hn37, f37, ga37, gf37, gi37, gk37, hs37, ha37, hfu37, him37, hk37, ef37, ea37, eu37⟩ ) cb_X10_periodGoes ml_X10_289 im_X10_periodGoes se_X10_periodGoes ho37 rfl rfl (rest := []) rfl (Nat.le_of_ble_eq_true rfl) ⟨Nat.le_of_ble_eq_true rfl, Nat.le_of_ble_eq_true rfl⟩ ⟨Nat.le_of_ble_eq_true rfl, Nat.le_of_ble_eq_true rfl⟩ (k' := 0) (z' := 0) (N' := N) rfl rfl rfl (fun r τ38 hp => ?_)
      obtain ⟨rfl, hp⟩ := hp
      obtain ⟨ho39, hn39, f39, ga39, gf39, gi39, gk39, hs39, ha39, hfu39, him39, hk39, ef39, ea39, eu39⟩ := hp
      refine m_iinc F (v := nI (i + 1)) (lv' := [(2, .int (nI (i + 1))), (0, .ref m), (1, .int (nI k))]) e_X10_go_54 rfl (nI_add i 1) (by decide) rfl ?_
      refine m_goto F e_X10_go_57 ?_
      exact ih (i + 1) _ (by omega) (by omega) ⟨ho39, hn39, f39, ga39, gf39, gi39, gk39, hs39, ha39, hfu39, him39, hk39, ef39, ea39, eu39⟩
set_option maxRecDepth 20000 in
theorem n_go (l : Launch) (V : VX) (N : Nat) (σ : Mem) (m : Nat) (x : Int32) (hZ : MZ V σ m) : Ct l V yX10_go cX10_go 3 (some .int) 2 0 0 N σ [.ref m, .int x] (fun r _ => r = some (.int (if x < 1 ∨ 12 < x then -1 else x))) := by
  refine Ct.of (by decide) (Nat.le_of_ble_eq_true rfl) [(0, .ref m), (1, .int x)] rfl (fun X hX F hQ => ?_)
  obtain ⟨z0, z1, z2, z3, z4, z5, z6, z7, z8, z9, z10, z11, z12, z13, z14, z15, z16, z17, z18, z19, z20, z21, z22⟩ := hZ
  refine m_aload_n F rfl e_X10_go_0 ?_
  refine m_iconst F (v := 0) (by decide) e_X10_go_1 ?_
  refine m_put F e_X10_go_2 fp_X10_91 z0 rfl rfl (Nat.le_of_ble_eq_true rfl) (fs' := [.int 0, .ref (m + 1), .int 0, .ref (m + 2), .ref (m + 3), .ref (m + 4), .ref (m + 5), .ref (m + 6), .ref (m + 7), .ref (m + 8), .ref (m + 9), .ref (m + 10), .ref (m + 11), .ref (m + 12), .ref (m + 13), .ref (m + 14), .ref (m + 15), .int 0, .int 0, .int 0, .int 0, .int 0, .int 0, .int 0, .int 0, .int 0, .int (-1), .ref (m + 16), .ref (m + 17), .ref (m + 18), .ref (m + 19), .ref (m + 20), .int 0, .int 0, .ref (m + 21), .ref (m + 22), .int 0]) rfl (up_self z0).symm ?_
  refine m_iload_n F rfl e_X10_go_5 ?_
  refine m_iconst F (v := 1) (by decide) e_X10_go_6 ?_
  refine m_icmp_lt F e_X10_go_7 (fun q7 => ?_) (fun q7 => ?_)
  · refine m_iconst F (v := (-1)) (by decide) e_X10_go_16 ?_
    exact m_iret F hQ e_X10_go_17 (by rw [if_pos (Or.inl q7)])
  · refine m_iload_n F rfl e_X10_go_10 ?_
    refine m_bipush F (v := 12) (by decide) e_X10_go_11 ?_
    refine m_icmp_le F e_X10_go_13 (fun q13 => ?_) (fun q13 => ?_)
    · obtain ⟨k, hk1, hk, ek⟩ := rng1 (x := x) (M := 12) (n := 12) (by decide) q7 q13
      subst ek
      refine m_aload_n F rfl e_X10_go_18 ?_
      refine m_get F e_X10_go_19 fl_X10_59 z0 rfl ?_
      refine m_sipush F (v := 744) (by decide) e_X10_go_22 ?_
      refine m_lald F (j := 744) e_X10_go_25 z16 (by decide) (by unfold vp_in; decide) ?_
      refine Wm.toplE (w := lN 0) (sZ744) ?_
      refine m_iload_n F rfl e_X10_go_26 ?_
      refine m_i2l F e_X10_go_27 ?_
      refine Wm.toplE (w := lN k) (nI_l (by omega)) ?_
      refine m_ladd F e_X10_go_28 ?_
      refine Wm.toplE (w := lN (0 + k)) (lN_add 0 k) ?_
      refine m_ldc2 F kc_X10_284 e_X10_go_29 ?_
      refine m_lcmp F e_X10_go_32 ?_
      refine m_if_le F e_X10_go_33 (fun q33 => ?_) (fun q33 => ?_)
      · have c33 : (0 + k) ≤ 99 := (lN_le (a := (0 + k)) (b := 99) (by omega) (by omega)).mp ((lg_cmp_le _ _).mp q33)
        refine m_iconst F (v := 0) (by decide) e_X10_go_39 ?_
        refine m_istore_n F (lv' := [(2, .int 0), (0, .ref m), (1, .int (nI k))]) e_X10_go_40 (by decide) rfl ?_
        exact lp_go0 F hQ hk (fun τ => by rw [if_neg (fun h => h.elim q7 (fun h => absurd q13 (Int32.not_le.mpr h)))]) (k + 1) 0 _ (by omega) (by omega) ⟨z0, z2, sZ, (fun _ => 0), (fun _ => 0), (fun _ => 0), (fun _ => 0), z16, z17, z18, z19, z20, sZ744, rfl, rfl⟩
      · have c33 : (0 + k) > 99 := by have hh := mt (fun h9 => (lg_cmp_le (lN (0 + k)) (lN 99)).mpr ((lN_le (a := (0 + k)) (b := 99) (by omega) (by omega)).mpr h9)) q33; omega
        exfalso; omega
    · refine m_iconst F (v := (-1)) (by decide) e_X10_go_16 ?_
      exact m_iret F hQ e_X10_go_17 (by rw [if_pos (Or.inr (Int32.not_le.mp q13))])
set_option maxRecDepth 20000 in
theorem k_indexNowZ (l : Launch) (V : VX) (N : Nat) (σ : Mem) (m : Nat) (h_obj : σ m = some (ob 8 [.int 0, .ref (m + 1), .int 0, .ref (m + 2), .ref (m + 3), .ref (m + 4), .ref (m + 5), .ref (m + 6), .ref (m + 7), .ref (m + 8), .ref (m + 9), .ref (m + 10), .ref (m + 11), .ref (m + 12), .ref (m + 13), .ref (m + 14), .ref (m + 15), .int 0, .int 0, .int 0, .int 0, .int 0, .int 0, .int 0, .int 0, .int 0, .int (-1), .ref (m + 16), .ref (m + 17), .ref (m + 18), .ref (m + 19), .ref (m + 20), .int 0, .int 0, .ref (m + 21), .ref (m + 22), .int 0])) (h_s : σ (m + 16) = some (aJ V 1113 sZ)) : Ct l V yX10_indexNow cX10_indexNow 1 (some .long) 0 0 0 N σ [.ref m] (fun r τ => r = some (.long 1000) ∧ τ = σ) := by
  refine Ct.of (by decide) (Nat.le_of_ble_eq_true rfl) [(0, .ref m)] rfl (fun X hX F hQ => ?_)
  refine m_aload_n F rfl e_X10_indexNow_0 ?_
  refine m_get F e_X10_indexNow_1 fl_X10_59 h_obj rfl ?_
  refine m_sipush F (v := 644) (by decide) e_X10_indexNow_4 ?_
  refine m_aload_n F rfl e_X10_indexNow_7 ?_
  refine m_get F e_X10_indexNow_8 fl_X10_59 h_obj rfl ?_
  refine m_sipush F (v := 744) (by decide) e_X10_indexNow_11 ?_
  refine m_lald F (j := 744) e_X10_indexNow_14 h_s (by decide) (by unfold vp_in; decide) ?_
  refine Wm.toplE (w := lN 0) (sZ744) ?_
  refine m_l2i F e_X10_indexNow_15 ?_
  refine Wm.topE (w := nI 0) (lN_i 0) ?_
  refine m_iadd F e_X10_indexNow_16 ?_
  refine Wm.topE (w := nI (644 + 0)) (nI_add 644 0) ?_
  refine m_lald F (j := 644 + 0) e_X10_indexNow_17 h_s (nI_clamp (by omega)) (vp_in_nI (by omega) (by omega)) ?_
  refine Wm.toplE (w := 1000) (sZ_ix (j := 0) (by omega)) ?_
  exact m_lret F hQ e_X10_indexNow_18 (⟨rfl, rfl⟩)
set_option maxRecDepth 20000 in
theorem n_become (l : Launch) (V : VX) (N : Nat) (σ : Mem) (m : Nat) (x : Int32) (hZ : MZ V σ m) : Ct l V yX10_become cX10_become 3 (some .int) 2 0 0 N σ [.ref m, .int x] (fun r _ => r = some (.int (if x < 500 ∨ 2000 < x then -1 else 1000))) := by
  refine Ct.of (by decide) (Nat.le_of_ble_eq_true rfl) [(0, .ref m), (1, .int x)] rfl (fun X hX F hQ => ?_)
  obtain ⟨z0, z1, z2, z3, z4, z5, z6, z7, z8, z9, z10, z11, z12, z13, z14, z15, z16, z17, z18, z19, z20, z21, z22⟩ := hZ
  refine m_aload_n F rfl e_X10_become_0 ?_
  refine m_iconst F (v := 0) (by decide) e_X10_become_1 ?_
  refine m_put F e_X10_become_2 fp_X10_91 z0 rfl rfl (Nat.le_of_ble_eq_true rfl) (fs' := [.int 0, .ref (m + 1), .int 0, .ref (m + 2), .ref (m + 3), .ref (m + 4), .ref (m + 5), .ref (m + 6), .ref (m + 7), .ref (m + 8), .ref (m + 9), .ref (m + 10), .ref (m + 11), .ref (m + 12), .ref (m + 13), .ref (m + 14), .ref (m + 15), .int 0, .int 0, .int 0, .int 0, .int 0, .int 0, .int 0, .int 0, .int 0, .int (-1), .ref (m + 16), .ref (m + 17), .ref (m + 18), .ref (m + 19), .ref (m + 20), .int 0, .int 0, .ref (m + 21), .ref (m + 22), .int 0]) rfl (up_self z0).symm ?_
  refine m_iload_n F rfl e_X10_become_5 ?_
  refine m_sipush F (v := 500) (by decide) e_X10_become_6 ?_
  refine m_icmp_lt F e_X10_become_9 (fun q9 => ?_) (fun q9 => ?_)
  · refine m_iconst F (v := (-1)) (by decide) e_X10_become_19 ?_
    exact m_iret F hQ e_X10_become_20 (by rw [if_pos (Or.inl q9)])
  · refine m_iload_n F rfl e_X10_become_12 ?_
    refine m_sipush F (v := 2000) (by decide) e_X10_become_13 ?_
    refine m_icmp_le F e_X10_become_16 (fun q16 => ?_) (fun q16 => ?_)
    · refine m_aload_n F rfl e_X10_become_21 ?_
      refine m_callV F e_X10_become_22 (k_indexNowZ (x_l X) V _ _ m z0 z16) cb_X10_indexNow ml_X10_260 im_X10_indexNow se_X10_indexNow z0 rfl rfl (rest := []) rfl (Nat.le_of_ble_eq_true rfl) ⟨Nat.le_of_ble_eq_true rfl, Nat.le_of_ble_eq_true rfl⟩ ⟨Nat.le_of_ble_eq_true rfl, Nat.le_of_ble_eq_true rfl⟩ (k' := 0) (z' := 0) (N' := N) rfl rfl rfl (fun r τ hp => ?_)
      obtain ⟨rfl, rfl⟩ := hp
      refine m_l2i F e_X10_become_25 ?_
      refine Wm.topE (w := 1000) (by decide) ?_
      refine m_istore_n F (lv' := [(2, .int 1000), (0, .ref m), (1, .int x)]) e_X10_become_26 (by decide) rfl ?_
      refine m_aload_n F rfl e_X10_become_27 ?_
      refine m_callV F e_X10_become_28 (k_remembers0 (x_l X) V _ _ m 0 0 0 0 0 0  ⟨z0, z2, sZ, (fun _ => 0), (fun _ => 0), (fun _ => 0), (fun _ => 0), z16, z17, z18, z19, z20, sZ744, rfl, rfl⟩ (by omega)) cb_X10_remembers ml_X10_286 im_X10_remembers se_X10_remembers z0 rfl rfl (rest := []) rfl (Nat.le_of_ble_eq_true rfl) ⟨Nat.le_of_ble_eq_true rfl, Nat.le_of_ble_eq_true rfl⟩ ⟨Nat.le_of_ble_eq_true rfl, Nat.le_of_ble_eq_true rfl⟩ (k' := 0) (z' := 0) (N' := N) rfl rfl rfl (fun r τ40 hp => ?_)
      obtain ⟨rfl, hp⟩ := hp
      obtain ⟨ho41, hn41, f41, ga41, gf41, gi41, gk41, hs41, ha41, hfu41, him41, hk41, ef41, ea41, eu41⟩ := hp
      refine m_aload_n F rfl e_X10_become_31 ?_
      refine m_iload_n F rfl e_X10_become_32 ?_
      refine m_i2l F e_X10_become_33 ?_
      refine m_callV F e_X10_become_34 (k_becomes0 (x_l X) V _ _ m 1 0 0 0 0 0 ((x).toInt64) ⟨ho41, hn41, f41, ga41, gf41, gi41, gk41, hs41, ha41, hfu41, him41, hk41, ef41, ea41, eu41⟩ (by omega)) cb_X10_becomes ml_X10_322 im_X10_becomes se_X10_becomes ho41 rfl rfl (rest := []) rfl (Nat.le_of_ble_eq_true rfl) ⟨Nat.le_of_ble_eq_true rfl, Nat.le_of_ble_eq_true rfl⟩ ⟨Nat.le_of_ble_eq_true rfl, Nat.le_of_ble_eq_true rfl⟩ (k' := 0) (z' := 0) (N' := N) rfl rfl rfl (fun r τ42 hp => ?_)
      obtain ⟨rfl, hp⟩ := hp
      obtain ⟨ho43, hn43, f43, ga43, gf43, gi43, gk43, hs43, ha43, hfu43, him43, hk43, ef43, ea43, eu43⟩ := hp
      refine m_iload_n F rfl e_X10_become_37 ?_
      exact m_iret F hQ e_X10_become_38 (by rw [if_neg (fun h => h.elim q9 (fun h => absurd q16 (Int32.not_le.mpr h)))])
    · refine m_iconst F (v := (-1)) (by decide) e_X10_become_19 ?_
      exact m_iret F hQ e_X10_become_20 (by rw [if_pos (Or.inr (Int32.not_le.mp q16))])
set_option maxRecDepth 20000 in
theorem n_all (l : Launch) (V : VX) (N : Nat) (σ : Mem) (m : Nat) (x : Int32) (hZ : MZ V σ m) : Ct l V yX10_all cX10_all 4 (some .long) 3 0 0 N σ [.ref m, .int x] (fun r _ => r = some (.long (if x < 0 ∨ 72 < x then -1 else 0))) := by
  refine Ct.of (by decide) (Nat.le_of_ble_eq_true rfl) [(0, .ref m), (1, .int x)] rfl (fun X hX F hQ => ?_)
  obtain ⟨z0, z1, z2, z3, z4, z5, z6, z7, z8, z9, z10, z11, z12, z13, z14, z15, z16, z17, z18, z19, z20, z21, z22⟩ := hZ
  refine m_aload_n F rfl e_X10_all_0 ?_
  refine m_iconst F (v := 0) (by decide) e_X10_all_1 ?_
  refine m_put F e_X10_all_2 fp_X10_91 z0 rfl rfl (Nat.le_of_ble_eq_true rfl) (fs' := [.int 0, .ref (m + 1), .int 0, .ref (m + 2), .ref (m + 3), .ref (m + 4), .ref (m + 5), .ref (m + 6), .ref (m + 7), .ref (m + 8), .ref (m + 9), .ref (m + 10), .ref (m + 11), .ref (m + 12), .ref (m + 13), .ref (m + 14), .ref (m + 15), .int 0, .int 0, .int 0, .int 0, .int 0, .int 0, .int 0, .int 0, .int 0, .int (-1), .ref (m + 16), .ref (m + 17), .ref (m + 18), .ref (m + 19), .ref (m + 20), .int 0, .int 0, .ref (m + 21), .ref (m + 22), .int 0]) rfl (up_self z0).symm ?_
  refine m_iload_n F rfl e_X10_all_5 ?_
  by_cases hx9 : x < 0 ∨ 72 < x
  · refine m_callS F e_X10_all_6 (k_areAhead (x_l X) V _ _ x) cb_X10_areAhead ml_X10_326 sm_X10_areAhead rfl (rest := []) rfl (Nat.le_of_ble_eq_true rfl) ⟨Nat.le_of_ble_eq_true rfl, Nat.le_of_ble_eq_true rfl⟩ ⟨Nat.le_of_ble_eq_true rfl, Nat.le_of_ble_eq_true rfl⟩ (k' := 0) (z' := 0) (N' := N) rfl rfl rfl (fun r τ hp => ?_)
    obtain ⟨rfl, rfl⟩ := hp
    refine Wm.topE (w := 0) (if_pos hx9) ?_
    refine m_if_ne F e_X10_all_9 (fun q => absurd (by decide) q) (fun _ => ?_)
    refine m_ldc2 F kc_X10_245 e_X10_all_12 ?_
    exact m_lret F hQ e_X10_all_15 (by rw [if_pos hx9])
  · obtain ⟨k, hk, ek⟩ := nI_of2 (x := x) (M := 72) (n := 72) (by decide) (fun h => hx9 (Or.inl h)) (Int32.not_lt.mp (fun h => hx9 (Or.inr h)))
    subst ek
    refine m_callS F e_X10_all_6 (k_areAhead (x_l X) V _ _ (nI k)) cb_X10_areAhead ml_X10_326 sm_X10_areAhead rfl (rest := []) rfl (Nat.le_of_ble_eq_true rfl) ⟨Nat.le_of_ble_eq_true rfl, Nat.le_of_ble_eq_true rfl⟩ ⟨Nat.le_of_ble_eq_true rfl, Nat.le_of_ble_eq_true rfl⟩ (k' := 0) (z' := 0) (N' := N) rfl rfl rfl (fun r τ hp => ?_)
    obtain ⟨rfl, rfl⟩ := hp
    refine Wm.topE (w := 1) (if_neg hx9) ?_
    refine m_if_ne F e_X10_all_9 (fun _ => ?_) (fun q => absurd q (by decide))
    refine m_aload_n F rfl e_X10_all_16 ?_
    refine m_iload_n F rfl e_X10_all_17 ?_
    refine m_callV F e_X10_all_18 (k_ahead0 (x_l X) V _ _ m 0 0 0 0 0 0 k ⟨z0, z2, sZ, (fun _ => 0), (fun _ => 0), (fun _ => 0), (fun _ => 0), z16, z17, z18, z19, z20, sZ744, rfl, rfl⟩ (by omega)) cb_X10_ahead ml_X10_329 im_X10_ahead se_X10_ahead z0 rfl rfl (rest := []) rfl (Nat.le_of_ble_eq_true rfl) ⟨Nat.le_of_ble_eq_true rfl, Nat.le_of_ble_eq_true rfl⟩ ⟨Nat.le_of_ble_eq_true rfl, Nat.le_of_ble_eq_true rfl⟩ (k' := 0) (z' := 0) (N' := N) rfl rfl rfl (fun r τ44 hp => ?_)
    obtain ⟨rfl, hp⟩ := hp
    obtain ⟨ho45, hn45, f45, ga45, gf45, gi45, gk45, hs45, ha45, hfu45, him45, hk45, ef45, ea45, eu45⟩ := hp
    refine m_aload_n F rfl e_X10_all_21 ?_
    refine m_callV F e_X10_all_22 (k_owedAll0 (x_l X) V _ _ m 0 0 0 0 0 0 0 0 0 0 0 (-1) 0 0 0  ho45 hn45 ) cb_X10_owedAll ml_X10_335 im_X10_owedAll se_X10_owedAll ho45 rfl rfl (rest := []) rfl (Nat.le_of_ble_eq_true rfl) ⟨Nat.le_of_ble_eq_true rfl, Nat.le_of_ble_eq_true rfl⟩ ⟨Nat.le_of_ble_eq_true rfl, Nat.le_of_ble_eq_true rfl⟩ (k' := 0) (z' := 0) (N' := N) rfl rfl rfl (fun r τ hp => ?_)
    obtain ⟨rfl, rfl⟩ := hp
    refine m_lstore_n F (lv' := [(2, .long 0), (0, .ref m), (1, .int (nI k))]) e_X10_all_25 (by decide) rfl ?_
    refine m_aload_n F rfl e_X10_all_26 ?_
    refine m_callV F e_X10_all_27 (k_back1 (x_l X) V _ _ m 0 0 0 (0 + k) 0 0  ⟨ho45, hn45, f45, ga45, gf45, gi45, gk45, hs45, ha45, hfu45, him45, hk45, ef45, ea45, eu45⟩ ) cb_X10_back1 ml_X10_332 im_X10_back1 se_X10_back1 ho45 rfl rfl (rest := []) rfl (Nat.le_of_ble_eq_true rfl) ⟨Nat.le_of_ble_eq_true rfl, Nat.le_of_ble_eq_true rfl⟩ ⟨Nat.le_of_ble_eq_true rfl, Nat.le_of_ble_eq_true rfl⟩ (k' := 0) (z' := 0) (N' := N) rfl rfl rfl (fun r τ46 hp => ?_)
    obtain ⟨rfl, hp⟩ := hp
    obtain ⟨ho47, hn47, f47, ga47, gf47, gi47, gk47, hs47, ha47, hfu47, him47, hk47, ef47, ea47, eu47⟩ := hp
    refine m_lload_n F rfl e_X10_all_30 ?_
    exact m_lret F hQ e_X10_all_31 (by rw [if_neg hx9])
theorem lp_peak0 {V : VX} {X : MX} {N : Nat} {Post : Option Value → Mem → Prop} (F : Fx V X yX10_peak cX10_peak 8 (some .long) (rmd 2 0 0)) (hQ : Rt V X 0 0 N Post) {m : Nat} {x : Int32} (hp : ∀ τ : Mem, Post (some (.long (-2))) τ) : ∀ (n i : Nat) (τ : Mem), i ≤ 72 → 72 - i < n → ME V τ m 0 0 0 i 0 0 → Wm V X 8 N τ 0 0 40 [(5, .int (nI i)), (0, .ref m), (1, .int x), (2, .long 0), (4, .int (-2))] [] := by
  intro n
  induction n with
  | zero => intro i τ h1 h2; exact absurd h2 (by omega)
  | succ n ih =>
    intro i τ h1 h2 hM
    obtain ⟨ho48, hn48, f48, ga48, gf48, gi48, gk48, hs48, ha48, hfu48, him48, hk48, ef48, ea48, eu48⟩ := hM
    refine m_iload F rfl e_X10_peak_40 ?_
    refine m_bipush F (v := 72) (by decide) e_X10_peak_42 ?_
    refine m_icmp_ge F e_X10_peak_44 (fun q44 => ?_) (fun q44 => ?_)
    · have c44 : i ≥ 72 := (nI_leI (a := 72) (b := i) (by omega) (by omega)).mp q44
      refine m_aload_n F rfl e_X10_peak_105 ?_
      refine m_callV F e_X10_peak_106 (k_back1 (x_l X) V _ _ m 0 0 0 i 0 0  ⟨ho48, hn48, f48, ga48, gf48, gi48, gk48, hs48, ha48, hfu48, him48, hk48, ef48, ea48, eu48⟩ ) cb_X10_back1 ml_X10_332 im_X10_back1 se_X10_back1 ho48 rfl rfl (rest := []) rfl (Nat.le_of_ble_eq_true rfl) ⟨Nat.le_of_ble_eq_true rfl, Nat.le_of_ble_eq_true rfl⟩ ⟨Nat.le_of_ble_eq_true rfl, Nat.le_of_ble_eq_true rfl⟩ (k' := 0) (z' := 0) (N' := N) rfl rfl rfl (fun r τ49 hp => ?_)
      obtain ⟨rfl, hp⟩ := hp
      obtain ⟨ho50, hn50, f50, ga50, gf50, gi50, gk50, hs50, ha50, hfu50, him50, hk50, ef50, ea50, eu50⟩ := hp
      refine m_iload F rfl e_X10_peak_109 ?_
      refine m_bipush F (v := (-2)) (by decide) e_X10_peak_111 ?_
      refine m_icmp_eq F e_X10_peak_113 (fun _ => ?_) (fun q => absurd (by decide) q)
      refine m_iload F rfl e_X10_peak_120 ?_
      refine m_i2l F e_X10_peak_122 ?_
      refine Wm.toplE (w := (-2)) (by decide) ?_
      refine m_goto F e_X10_peak_123 ?_
      exact m_lret F hQ e_X10_peak_127 (hp _)
    · have c44 : i < 72 := by have hh := mt (nI_leI (a := 72) (b := i) (by omega) (by omega)).mpr q44; omega
      refine m_aload_n F rfl e_X10_peak_47 ?_
      refine m_get F e_X10_peak_48 fl_X10_59 ho48 rfl ?_
      refine m_sipush F (v := 744) (by decide) e_X10_peak_51 ?_
      refine m_lald F (j := 744) e_X10_peak_54 hs48 (by decide) (by unfold vp_in; decide) ?_
      refine Wm.toplE (w := lN i) (ef48) ?_
      refine m_ldc2 F kc_X10_284 e_X10_peak_55 ?_
      refine m_lcmp F e_X10_peak_58 ?_
      refine m_if_ge F e_X10_peak_59 (fun q59 => ?_) (fun q59 => ?_)
      · have c59 : i ≥ 99 := (lN_le (a := 99) (b := i) (by omega) (by omega)).mp ((lg_cmp_ge _ _).mp q59)
        exfalso; omega
      · have c59 : i < 99 := by have hh := mt (fun h9 => (lg_cmp_ge (lN i) (lN 99)).mpr ((lN_le (a := 99) (b := i) (by omega) (by omega)).mpr h9)) q59; omega
        refine m_aload_n F rfl e_X10_peak_62 ?_
        refine m_callV F e_X10_peak_63 (k_paidAll0 (x_l X) V _ _ m 0 0 0 0 0 0 0 0 0 0 0 (-1) (nI 0) 0 0  ho48 hn48 ) cb_X10_paidAll ml_X10_343 im_X10_paidAll se_X10_paidAll ho48 rfl rfl (rest := []) rfl (Nat.le_of_ble_eq_true rfl) ⟨Nat.le_of_ble_eq_true rfl, Nat.le_of_ble_eq_true rfl⟩ ⟨Nat.le_of_ble_eq_true rfl, Nat.le_of_ble_eq_true rfl⟩ (k' := 0) (z' := 0) (N' := N) rfl rfl rfl (fun r τ hp => ?_)
        obtain ⟨rfl, rfl⟩ := hp
        refine m_lstore F (lv' := [(6, .long 0), (5, .int (nI i)), (0, .ref m), (1, .int x), (2, .long 0), (4, .int (-2))]) e_X10_peak_66 (by decide) rfl ?_
        refine m_aload_n F rfl e_X10_peak_68 ?_
        refine m_callV F e_X10_peak_69 (k_periodGoes0 (x_l X) V _ _ m 0 0 0 i 0 0  ⟨ho48, hn48, f48, ga48, gf48, gi48, gk48, hs48, ha48, hfu48, him48, hk48, ef48, ea48, eu48⟩ ) cb_X10_periodGoes ml_X10_289 im_X10_periodGoes se_X10_periodGoes ho48 rfl rfl (rest := []) rfl (Nat.le_of_ble_eq_true rfl) ⟨Nat.le_of_ble_eq_true rfl, Nat.le_of_ble_eq_true rfl⟩ ⟨Nat.le_of_ble_eq_true rfl, Nat.le_of_ble_eq_true rfl⟩ (k' := 0) (z' := 0) (N' := N) rfl rfl rfl (fun r τ51 hp => ?_)
        obtain ⟨rfl, hp⟩ := hp
        obtain ⟨ho52, hn52, f52, ga52, gf52, gi52, gk52, hs52, ha52, hfu52, him52, hk52, ef52, ea52, eu52⟩ := hp
        refine m_aload_n F rfl e_X10_peak_72 ?_
        refine m_callV F e_X10_peak_73 (k_paidAll0 (x_l X) V _ _ m 0 0 0 0 0 0 0 0 0 0 0 (-1) (nI 0) 0 0  ho52 hn52 ) cb_X10_paidAll ml_X10_343 im_X10_paidAll se_X10_paidAll ho52 rfl rfl (rest := []) rfl (Nat.le_of_ble_eq_true rfl) ⟨Nat.le_of_ble_eq_true rfl, Nat.le_of_ble_eq_true rfl⟩ ⟨Nat.le_of_ble_eq_true rfl, Nat.le_of_ble_eq_true rfl⟩ (k' := 0) (z' := 0) (N' := N) rfl rfl rfl (fun r τ hp => ?_)
        obtain ⟨rfl, rfl⟩ := hp
        refine m_lload F rfl e_X10_peak_76 ?_
        refine m_lsub F e_X10_peak_78 ?_
        refine Wm.toplE (w := 0) (by decide) ?_
        refine m_lload_n F rfl e_X10_peak_79 ?_
        refine m_lcmp F e_X10_peak_80 ?_
        refine Wm.topE (w := 0) (by decide) ?_
        refine m_if_gt F e_X10_peak_81 (fun q => absurd q (by decide)) (fun _ => ?_)
        refine m_goto F e_X10_peak_84 ?_
        refine m_iinc F (v := nI (i + 1)) (lv' := [(5, .int (nI (i + 1))), (6, .long 0), (0, .ref m), (1, .int x), (2, .long 0), (4, .int (-2))]) e_X10_peak_99 rfl (nI_add i 1) (by decide) rfl ?_
        refine m_goto F e_X10_peak_102 ?_
        refine Wm.lvsub (lv' := [(5, .int (nI (i + 1))), (0, .ref m), (1, .int x), (2, .long 0), (4, .int (-2))]) ?_ [0, 2, 3, 4, 5] rfl
        exact ih (i + 1) _ (by omega) (by omega) ⟨ho52, hn52, f52, ga52, gf52, gi52, gk52, hs52, ha52, hfu52, him52, hk52, ef52, ea52, eu52⟩
set_option maxRecDepth 20000 in
theorem n_peak (l : Launch) (V : VX) (N : Nat) (σ : Mem) (m : Nat) (x : Int32) (hZ : MZ V σ m) : Ct l V yX10_peak cX10_peak 8 (some .long) 2 0 0 N σ [.ref m, .int x] (fun r _ => r = some (.long (if x < 0 ∨ 1 < x then -1 else -2))) := by
  refine Ct.of (by decide) (Nat.le_of_ble_eq_true rfl) [(0, .ref m), (1, .int x)] rfl (fun X hX F hQ => ?_)
  obtain ⟨z0, z1, z2, z3, z4, z5, z6, z7, z8, z9, z10, z11, z12, z13, z14, z15, z16, z17, z18, z19, z20, z21, z22⟩ := hZ
  refine m_aload_n F rfl e_X10_peak_0 ?_
  refine m_iconst F (v := 0) (by decide) e_X10_peak_1 ?_
  refine m_put F e_X10_peak_2 fp_X10_91 z0 rfl rfl (Nat.le_of_ble_eq_true rfl) (fs' := [.int 0, .ref (m + 1), .int 0, .ref (m + 2), .ref (m + 3), .ref (m + 4), .ref (m + 5), .ref (m + 6), .ref (m + 7), .ref (m + 8), .ref (m + 9), .ref (m + 10), .ref (m + 11), .ref (m + 12), .ref (m + 13), .ref (m + 14), .ref (m + 15), .int 0, .int 0, .int 0, .int 0, .int 0, .int 0, .int 0, .int 0, .int 0, .int (-1), .ref (m + 16), .ref (m + 17), .ref (m + 18), .ref (m + 19), .ref (m + 20), .int 0, .int 0, .ref (m + 21), .ref (m + 22), .int 0]) rfl (up_self z0).symm ?_
  refine m_iload_n F rfl e_X10_peak_5 ?_
  refine m_if_lt F e_X10_peak_6 (fun q6 => ?_) (fun q6 => ?_)
  · refine m_ldc2 F kc_X10_245 e_X10_peak_14 ?_
    exact m_lret F hQ e_X10_peak_17 (by rw [if_pos (Or.inl q6)])
  · refine m_iload_n F rfl e_X10_peak_9 ?_
    refine m_iconst F (v := 1) (by decide) e_X10_peak_10 ?_
    refine m_icmp_le F e_X10_peak_11 (fun q11 => ?_) (fun q11 => ?_)
    · refine m_aload_n F rfl e_X10_peak_18 ?_
      refine m_get F e_X10_peak_19 fl_X10_59 z0 rfl ?_
      refine m_iconst F (v := 0) (by decide) e_X10_peak_22 ?_
      refine m_aload_n F rfl e_X10_peak_23 ?_
      refine m_get F e_X10_peak_24 fl_X10_63 z0 rfl ?_
      refine m_iconst F (v := 0) (by decide) e_X10_peak_27 ?_
      refine m_callS F e_X10_peak_28 (k_copies (x_l X) V _ _ (m + 16) (m + 17) 1113 1113 0 0 sZ (fun _ => 0) (by omega) (by omega) (by omega) (by omega) (by omega) z16 z17) cb_X10_copies ml_X10_230 sm_X10_copies rfl (rest := []) rfl (Nat.le_of_ble_eq_true rfl) ⟨Nat.le_of_ble_eq_true rfl, Nat.le_of_ble_eq_true rfl⟩ ⟨Nat.le_of_ble_eq_true rfl, Nat.le_of_ble_eq_true rfl⟩ (k' := 0) (z' := 0) (N' := N) rfl rfl rfl (fun r τ hp => ?_)
      obtain ⟨rfl, rfl⟩ := hp
      refine m_lconst F (v := 0) (by decide) e_X10_peak_31 ?_
      refine m_lstore_n F (lv' := [(2, .long 0), (0, .ref m), (1, .int x)]) e_X10_peak_32 (by decide) rfl ?_
      refine m_bipush F (v := (-2)) (by decide) e_X10_peak_33 ?_
      refine m_istore F (lv' := [(4, .int (-2)), (2, .long 0), (0, .ref m), (1, .int x)]) e_X10_peak_35 (by decide) rfl ?_
      refine m_iconst F (v := 0) (by decide) e_X10_peak_37 ?_
      refine m_istore F (lv' := [(5, .int 0), (4, .int (-2)), (2, .long 0), (0, .ref m), (1, .int x)]) e_X10_peak_38 (by decide) rfl ?_
      refine Wm.lvsub (lv' := [(5, .int 0), (0, .ref m), (1, .int x), (2, .long 0), (4, .int (-2))]) ?_ [0, 3, 4, 2, 1] rfl
      exact lp_peak0 F hQ (fun τ => by rw [if_neg (fun h => h.elim q6 (fun h => absurd q11 (Int32.not_le.mpr h)))]) 73 0 _ (by omega) (by omega) ⟨(ru_ne (by omega) z0), (ru_ne (by omega) z2), sZ, (cpJ sZ (fun _ => 0) 0 0 1113), (fun _ => 0), (fun _ => 0), (fun _ => 0), (ru_ne (by omega) z16), ru_eq, (ru_ne (by omega) z18), (ru_ne (by omega) z19), (ru_ne (by omega) z20), sZ744, ((cpJ_in (by omega) (by omega)).trans sZ744), rfl⟩
    · refine m_ldc2 F kc_X10_245 e_X10_peak_14 ?_
      exact m_lret F hQ e_X10_peak_17 (by rw [if_pos (Or.inr (Int32.not_le.mp q11))])
set_option maxRecDepth 20000 in
theorem n_cash (l : Launch) (V : VX) (N : Nat) (σ : Mem) (m : Nat) (x y : Int32) (hZ : MZ V σ m) : Ct l V yX10_cash cX10_cash 7 (some .long) 3 0 0 N σ [.ref m, .int x, .int y] (fun r _ => r = some (.long (if x < 0 ∨ 71 < y ∨ y < x then -1 else 0))) := by
  refine Ct.of (by decide) (Nat.le_of_ble_eq_true rfl) [(0, .ref m), (1, .int x), (2, .int y)] rfl (fun X hX F hQ => ?_)
  obtain ⟨z0, z1, z2, z3, z4, z5, z6, z7, z8, z9, z10, z11, z12, z13, z14, z15, z16, z17, z18, z19, z20, z21, z22⟩ := hZ
  refine m_aload_n F rfl e_X10_cash_0 ?_
  refine m_iconst F (v := 0) (by decide) e_X10_cash_1 ?_
  refine m_put F e_X10_cash_2 fp_X10_91 z0 rfl rfl (Nat.le_of_ble_eq_true rfl) (fs' := [.int 0, .ref (m + 1), .int 0, .ref (m + 2), .ref (m + 3), .ref (m + 4), .ref (m + 5), .ref (m + 6), .ref (m + 7), .ref (m + 8), .ref (m + 9), .ref (m + 10), .ref (m + 11), .ref (m + 12), .ref (m + 13), .ref (m + 14), .ref (m + 15), .int 0, .int 0, .int 0, .int 0, .int 0, .int 0, .int 0, .int 0, .int 0, .int (-1), .ref (m + 16), .ref (m + 17), .ref (m + 18), .ref (m + 19), .ref (m + 20), .int 0, .int 0, .ref (m + 21), .ref (m + 22), .int 0]) rfl (up_self z0).symm ?_
  refine m_iload_n F rfl e_X10_cash_5 ?_
  refine m_if_lt F e_X10_cash_6 (fun q6 => ?_) (fun q6 => ?_)
  · refine m_ldc2 F kc_X10_245 e_X10_cash_20 ?_
    exact m_lret F hQ e_X10_cash_23 (by rw [if_pos (Or.inl q6)])
  · refine m_iload_n F rfl e_X10_cash_9 ?_
    refine m_bipush F (v := 71) (by decide) e_X10_cash_10 ?_
    refine m_icmp_gt F e_X10_cash_12 (fun q12 => ?_) (fun q12 => ?_)
    · refine m_ldc2 F kc_X10_245 e_X10_cash_20 ?_
      exact m_lret F hQ e_X10_cash_23 (by rw [if_pos (Or.inr (Or.inl q12))])
    · refine m_iload_n F rfl e_X10_cash_15 ?_
      refine m_iload_n F rfl e_X10_cash_16 ?_
      refine m_icmp_le F e_X10_cash_17 (fun q17 => ?_) (fun q17 => ?_)
      · have hx0 : ¬ x < 0 := q6
        have hy0 : ¬ y < 0 := fun h => q6 (Int32.lt_of_le_of_lt q17 h)
        obtain ⟨b, hb, eb⟩ := nI_of2 (x := y) (M := 71) (n := 71) (by decide) hy0 (Int32.not_lt.mp q12)
        obtain ⟨a, ha, ea9⟩ := nI_of2 (x := x) (M := 71) (n := 71) (by decide) hx0 (Int32.le_trans q17 (Int32.not_lt.mp q12))
        subst eb; subst ea9
        refine m_aload_n F rfl e_X10_cash_24 ?_
        refine m_iload_n F rfl e_X10_cash_25 ?_
        refine m_callV F e_X10_cash_26 (k_ahead0 (x_l X) V _ _ m 0 0 0 0 0 0 a ⟨z0, z2, sZ, (fun _ => 0), (fun _ => 0), (fun _ => 0), (fun _ => 0), z16, z17, z18, z19, z20, sZ744, rfl, rfl⟩ (by omega)) cb_X10_ahead ml_X10_329 im_X10_ahead se_X10_ahead z0 rfl rfl (rest := []) rfl (Nat.le_of_ble_eq_true rfl) ⟨Nat.le_of_ble_eq_true rfl, Nat.le_of_ble_eq_true rfl⟩ ⟨Nat.le_of_ble_eq_true rfl, Nat.le_of_ble_eq_true rfl⟩ (k' := 0) (z' := 0) (N' := N) rfl rfl rfl (fun r τ53 hp => ?_)
        obtain ⟨rfl, hp⟩ := hp
        obtain ⟨ho54, hn54, f54, ga54, gf54, gi54, gk54, hs54, ha54, hfu54, him54, hk54, ef54, ea54, eu54⟩ := hp
        refine m_aload_n F rfl e_X10_cash_29 ?_
        refine m_callV F e_X10_cash_30 (k_paidAll0 (x_l X) V _ _ m 0 0 0 0 0 0 0 0 0 0 0 (-1) 0 0 0  ho54 hn54 ) cb_X10_paidAll ml_X10_343 im_X10_paidAll se_X10_paidAll ho54 rfl rfl (rest := []) rfl (Nat.le_of_ble_eq_true rfl) ⟨Nat.le_of_ble_eq_true rfl, Nat.le_of_ble_eq_true rfl⟩ ⟨Nat.le_of_ble_eq_true rfl, Nat.le_of_ble_eq_true rfl⟩ (k' := 0) (z' := 0) (N' := N) rfl rfl rfl (fun r τ hp => ?_)
        obtain ⟨rfl, rfl⟩ := hp
        refine m_lstore_n F (lv' := [(3, .long 0), (0, .ref m), (1, .int (nI a)), (2, .int (nI b))]) e_X10_cash_33 (by decide) rfl ?_
        refine m_aload_n F rfl e_X10_cash_34 ?_
        refine m_callV F e_X10_cash_35 (k_back1 (x_l X) V _ _ m 0 0 0 (0 + a) 0 0  ⟨ho54, hn54, f54, ga54, gf54, gi54, gk54, hs54, ha54, hfu54, him54, hk54, ef54, ea54, eu54⟩ ) cb_X10_back1 ml_X10_332 im_X10_back1 se_X10_back1 ho54 rfl rfl (rest := []) rfl (Nat.le_of_ble_eq_true rfl) ⟨Nat.le_of_ble_eq_true rfl, Nat.le_of_ble_eq_true rfl⟩ ⟨Nat.le_of_ble_eq_true rfl, Nat.le_of_ble_eq_true rfl⟩ (k' := 0) (z' := 0) (N' := N) rfl rfl rfl (fun r τ55 hp => ?_)
        obtain ⟨rfl, hp⟩ := hp
        obtain ⟨ho56, hn56, f56, ga56, gf56, gi56, gk56, hs56, ha56, hfu56, him56, hk56, ef56, ea56, eu56⟩ := hp
        refine m_aload_n F rfl e_X10_cash_38 ?_
        refine m_iload_n F rfl e_X10_cash_39 ?_
        refine m_iconst F (v := 1) (by decide) e_X10_cash_40 ?_
        refine m_iadd F e_X10_cash_41 ?_
        refine Wm.topE (w := nI (b + 1)) (nI_add b 1) ?_
        refine m_callV F e_X10_cash_42 (k_ahead0 (x_l X) V _ _ m 0 0 0 0 0 0 (b + 1) ⟨ho56, hn56, f56, ga56, gf56, gi56, gk56, hs56, ha56, hfu56, him56, hk56, ef56, ea56, eu56⟩ (by omega)) cb_X10_ahead ml_X10_329 im_X10_ahead se_X10_ahead ho56 rfl rfl (rest := []) rfl (Nat.le_of_ble_eq_true rfl) ⟨Nat.le_of_ble_eq_true rfl, Nat.le_of_ble_eq_true rfl⟩ ⟨Nat.le_of_ble_eq_true rfl, Nat.le_of_ble_eq_true rfl⟩ (k' := 0) (z' := 0) (N' := N) rfl rfl rfl (fun r τ57 hp => ?_)
        obtain ⟨rfl, hp⟩ := hp
        obtain ⟨ho58, hn58, f58, ga58, gf58, gi58, gk58, hs58, ha58, hfu58, him58, hk58, ef58, ea58, eu58⟩ := hp
        refine m_aload_n F rfl e_X10_cash_45 ?_
        refine m_callV F e_X10_cash_46 (k_paidAll0 (x_l X) V _ _ m 0 0 0 0 0 0 0 0 0 0 0 (-1) 0 0 0  ho58 hn58 ) cb_X10_paidAll ml_X10_343 im_X10_paidAll se_X10_paidAll ho58 rfl rfl (rest := []) rfl (Nat.le_of_ble_eq_true rfl) ⟨Nat.le_of_ble_eq_true rfl, Nat.le_of_ble_eq_true rfl⟩ ⟨Nat.le_of_ble_eq_true rfl, Nat.le_of_ble_eq_true rfl⟩ (k' := 0) (z' := 0) (N' := N) rfl rfl rfl (fun r τ hp => ?_)
        obtain ⟨rfl, rfl⟩ := hp
        refine m_lstore F (lv' := [(5, .long 0), (3, .long 0), (0, .ref m), (1, .int (nI a)), (2, .int (nI b))]) e_X10_cash_49 (by decide) rfl ?_
        refine m_aload_n F rfl e_X10_cash_51 ?_
        refine m_callV F e_X10_cash_52 (k_back1 (x_l X) V _ _ m 0 0 0 (0 + (b + 1)) 0 0  ⟨ho58, hn58, f58, ga58, gf58, gi58, gk58, hs58, ha58, hfu58, him58, hk58, ef58, ea58, eu58⟩ ) cb_X10_back1 ml_X10_332 im_X10_back1 se_X10_back1 ho58 rfl rfl (rest := []) rfl (Nat.le_of_ble_eq_true rfl) ⟨Nat.le_of_ble_eq_true rfl, Nat.le_of_ble_eq_true rfl⟩ ⟨Nat.le_of_ble_eq_true rfl, Nat.le_of_ble_eq_true rfl⟩ (k' := 0) (z' := 0) (N' := N) rfl rfl rfl (fun r τ59 hp => ?_)
        obtain ⟨rfl, hp⟩ := hp
        obtain ⟨ho60, hn60, f60, ga60, gf60, gi60, gk60, hs60, ha60, hfu60, him60, hk60, ef60, ea60, eu60⟩ := hp
        refine m_lload F rfl e_X10_cash_55 ?_
        refine m_lload_n F rfl e_X10_cash_57 ?_
        refine m_lsub F e_X10_cash_58 ?_
        refine Wm.toplE (w := 0) (by decide) ?_
        exact m_lret F hQ e_X10_cash_59 (by rw [if_neg (fun h => h.elim q6 (fun h => h.elim q12 (fun h => absurd q17 (Int32.not_le.mpr h))))])
      · refine m_ldc2 F kc_X10_245 e_X10_cash_20 ?_
        exact m_lret F hQ e_X10_cash_23 (by rw [if_pos (Or.inr (Or.inr (Int32.not_le.mp q17)))])
end
section
theorem e_X10_chance_125 : DC cX10_chance 125 2 127 (.iload 11) := ⟨by decide +kernel, rfl⟩
theorem e_X10_chance_127 : DC cX10_chance 127 2 129 (.bipush 12) := ⟨by decide +kernel, rfl⟩
theorem e_X10_chance_129 : DJ cX10_chance 129 165 132 (.if_icmp .ge) := DJ.mk 36 (by decide +kernel) (by decide) rfl
theorem e_X10_chance_132 : DC cX10_chance 132 1 133 (.aload_n 0) := ⟨by decide +kernel, rfl⟩
theorem e_X10_chance_133 : DC cX10_chance 133 1 134 (.aload_n 0) := ⟨by decide +kernel, rfl⟩
theorem e_X10_chance_134 : DC cX10_chance 134 3 137 (.invokevirtual 260) := ⟨by decide +kernel, rfl⟩
theorem e_X10_chance_137 : DC cX10_chance 137 1 138 (.aload_n 0) := ⟨by decide +kernel, rfl⟩
theorem e_X10_chance_138 : DC cX10_chance 138 2 140 (.bipush 21) := ⟨by decide +kernel, rfl⟩
theorem e_X10_chance_140 : DC cX10_chance 140 3 143 (.invokevirtual 364) := ⟨by decide +kernel, rfl⟩
theorem cb_X10_draw : CB yX10_draw cX10_draw 2 (some .int) 1 := ⟨tb_in 1959 (by decide +kernel) (by decide +kernel), tb_in 10 (by decide +kernel) (by decide +kernel), by decide +kernel⟩
theorem ml_X10_364 : Cond.methodLink RX10 364 yX10_draw ∈ tb := tb_in 1956 (by decide +kernel) (by decide +kernel)
theorem im_X10_draw : Cond.instanceMethod yX10_draw ∈ tb := tb_in 1958 (by decide +kernel) (by decide +kernel)
theorem se_X10_draw : Cond.selects (yX10_draw).cls yX10_draw yX10_draw ∈ tb := tb_sel 61 (by decide +kernel) (by decide +kernel)
theorem e_X10_chance_143 : DC cX10_chance 143 1 144 (.i2l) := ⟨by decide +kernel, rfl⟩
theorem e_X10_chance_144 : DC cX10_chance 144 1 145 (.ladd) := ⟨by decide +kernel, rfl⟩
theorem e_X10_chance_145 : DC cX10_chance 145 3 148 (.ldc2_w 367) := ⟨by decide +kernel, rfl⟩
theorem kc_X10_367 : Cond.constantLong RX10 367 10 ∈ tb := tb_in 1962 (by decide +kernel) (by decide +kernel)
theorem e_X10_chance_148 : DC cX10_chance 148 1 149 (.lsub) := ⟨by decide +kernel, rfl⟩
theorem e_X10_chance_149 : DC cX10_chance 149 3 152 (.invokestatic 369) := ⟨by decide +kernel, rfl⟩
theorem cb_X10_held : CB yX10_held cX10_held 2 (some .long) 1 := ⟨tb_in 1965 (by decide +kernel) (by decide +kernel), tb_in 10 (by decide +kernel) (by decide +kernel), by decide +kernel⟩
theorem ml_X10_369 : Cond.methodLink RX10 369 yX10_held ∈ tb := tb_in 1963 (by decide +kernel) (by decide +kernel)
theorem sm_X10_held : Cond.static yX10_held ∈ tb := tb_in 1964 (by decide +kernel) (by decide +kernel)
theorem e_X10_chance_152 : DC cX10_chance 152 3 155 (.invokevirtual 322) := ⟨by decide +kernel, rfl⟩
theorem e_X10_chance_155 : DC cX10_chance 155 1 156 (.aload_n 0) := ⟨by decide +kernel, rfl⟩
theorem e_X10_chance_156 : DC cX10_chance 156 3 159 (.invokevirtual 289) := ⟨by decide +kernel, rfl⟩
theorem e_X10_chance_159 : DC cX10_chance 159 3 162 (.iinc 11 1) := ⟨by decide +kernel, rfl⟩
theorem e_X10_chance_162 : DJ cX10_chance 162 125 165 .goto := DJ.mk (-37) (by decide +kernel) (by decide) rfl
theorem e_X10_chance_116 : DC cX10_chance 116 2 118 (.iload 10) := ⟨by decide +kernel, rfl⟩
theorem e_X10_chance_118 : DC cX10_chance 118 1 119 (.iload_n 2) := ⟨by decide +kernel, rfl⟩
theorem e_X10_chance_119 : DJ cX10_chance 119 241 122 (.if_icmp .ge) := DJ.mk 122 (by decide +kernel) (by decide) rfl
theorem e_X10_chance_241 : DC cX10_chance 241 1 242 (.iload_n 3) := ⟨by decide +kernel, rfl⟩
theorem e_X10_chance_242 : DJ cX10_chance 242 250 245 (.ifCond .ne) := DJ.mk 8 (by decide +kernel) (by decide) rfl
theorem e_X10_chance_250 : DC cX10_chance 250 1 251 (.iload_n 3) := ⟨by decide +kernel, rfl⟩
theorem e_X10_chance_251 : DC cX10_chance 251 1 252 (.iconst 1) := ⟨by decide +kernel, rfl⟩
theorem e_X10_chance_252 : DJ cX10_chance 252 260 255 (.if_icmp .ne) := DJ.mk 8 (by decide +kernel) (by decide) rfl
theorem e_X10_chance_260 : DC cX10_chance 260 2 262 (.lload 8) := ⟨by decide +kernel, rfl⟩
theorem e_X10_chance_262 : DC cX10_chance 262 1 263 (.lreturn) := ⟨by decide +kernel, rfl⟩
theorem e_X10_chance_255 : DC cX10_chance 255 2 257 (.lload 6) := ⟨by decide +kernel, rfl⟩
theorem e_X10_chance_257 : DJ cX10_chance 257 262 260 .goto := DJ.mk 5 (by decide +kernel) (by decide) rfl
theorem e_X10_chance_245 : DC cX10_chance 245 2 247 (.lload 4) := ⟨by decide +kernel, rfl⟩
theorem e_X10_chance_247 : DJ cX10_chance 247 262 250 .goto := DJ.mk 15 (by decide +kernel) (by decide) rfl
theorem e_X10_chance_122 : DC cX10_chance 122 1 123 (.iconst 0) := ⟨by decide +kernel, rfl⟩
theorem e_X10_chance_123 : DC cX10_chance 123 2 125 (.istore 11) := ⟨by decide +kernel, rfl⟩
theorem e_X10_chance_165 : DC cX10_chance 165 1 166 (.aload_n 0) := ⟨by decide +kernel, rfl⟩
theorem e_X10_chance_166 : DC cX10_chance 166 3 169 (.invokevirtual 335) := ⟨by decide +kernel, rfl⟩
theorem e_X10_chance_169 : DC cX10_chance 169 2 171 (.lstore 11) := ⟨by decide +kernel, rfl⟩
theorem e_X10_chance_171 : DC cX10_chance 171 2 173 (.lload 4) := ⟨by decide +kernel, rfl⟩
theorem e_X10_chance_173 : DC cX10_chance 173 2 175 (.lload 11) := ⟨by decide +kernel, rfl⟩
theorem e_X10_chance_175 : DC cX10_chance 175 1 176 (.ladd) := ⟨by decide +kernel, rfl⟩
theorem e_X10_chance_176 : DC cX10_chance 176 2 178 (.lstore 4) := ⟨by decide +kernel, rfl⟩
theorem e_X10_chance_178 : DC cX10_chance 178 2 180 (.iload 10) := ⟨by decide +kernel, rfl⟩
theorem e_X10_chance_180 : DJ cX10_chance 180 191 183 (.ifCond .eq) := DJ.mk 11 (by decide +kernel) (by decide) rfl
theorem e_X10_chance_191 : DC cX10_chance 191 2 193 (.lload 11) := ⟨by decide +kernel, rfl⟩
theorem e_X10_chance_193 : DJ cX10_chance 193 198 196 .goto := DJ.mk 5 (by decide +kernel) (by decide) rfl
theorem e_X10_chance_198 : DC cX10_chance 198 2 200 (.lstore 6) := ⟨by decide +kernel, rfl⟩
theorem e_X10_chance_200 : DC cX10_chance 200 2 202 (.iload 10) := ⟨by decide +kernel, rfl⟩
theorem e_X10_chance_202 : DJ cX10_chance 202 213 205 (.ifCond .eq) := DJ.mk 11 (by decide +kernel) (by decide) rfl
theorem e_X10_chance_213 : DC cX10_chance 213 2 215 (.lload 11) := ⟨by decide +kernel, rfl⟩
theorem e_X10_chance_215 : DJ cX10_chance 215 220 218 .goto := DJ.mk 5 (by decide +kernel) (by decide) rfl
theorem e_X10_chance_220 : DC cX10_chance 220 2 222 (.lstore 8) := ⟨by decide +kernel, rfl⟩
theorem e_X10_chance_222 : DC cX10_chance 222 1 223 (.aload_n 0) := ⟨by decide +kernel, rfl⟩
theorem e_X10_chance_223 : DC cX10_chance 223 3 226 (.getfield 66) := ⟨by decide +kernel, rfl⟩
theorem fl_X10_66 : FL RX10 66 8 29 := ⟨RX10, TX10, 37, rfl, by decide, uw_8, tb_in 1489 (by decide +kernel) (by decide +kernel), rfl⟩
theorem e_X10_chance_226 : DC cX10_chance 226 1 227 (.iconst 0) := ⟨by decide +kernel, rfl⟩
theorem e_X10_chance_227 : DC cX10_chance 227 1 228 (.aload_n 0) := ⟨by decide +kernel, rfl⟩
theorem e_X10_chance_228 : DC cX10_chance 228 3 231 (.getfield 59) := ⟨by decide +kernel, rfl⟩
theorem e_X10_chance_231 : DC cX10_chance 231 1 232 (.iconst 0) := ⟨by decide +kernel, rfl⟩
theorem e_X10_chance_232 : DC cX10_chance 232 3 235 (.invokestatic 230) := ⟨by decide +kernel, rfl⟩
theorem e_X10_chance_235 : DC cX10_chance 235 3 238 (.iinc 10 1) := ⟨by decide +kernel, rfl⟩
theorem e_X10_chance_238 : DJ cX10_chance 238 116 241 .goto := DJ.mk (-122) (by decide +kernel) (by decide) rfl
theorem e_X10_chance_205 : DC cX10_chance 205 2 207 (.lload 11) := ⟨by decide +kernel, rfl⟩
theorem e_X10_chance_207 : DC cX10_chance 207 2 209 (.lload 8) := ⟨by decide +kernel, rfl⟩
theorem e_X10_chance_209 : DC cX10_chance 209 1 210 (.lcmp) := ⟨by decide +kernel, rfl⟩
theorem e_X10_chance_210 : DJ cX10_chance 210 218 213 (.ifCond .ge) := DJ.mk 8 (by decide +kernel) (by decide) rfl
theorem e_X10_chance_218 : DC cX10_chance 218 2 220 (.lload 8) := ⟨by decide +kernel, rfl⟩
theorem e_X10_chance_183 : DC cX10_chance 183 2 185 (.lload 11) := ⟨by decide +kernel, rfl⟩
theorem e_X10_chance_185 : DC cX10_chance 185 2 187 (.lload 6) := ⟨by decide +kernel, rfl⟩
theorem e_X10_chance_187 : DC cX10_chance 187 1 188 (.lcmp) := ⟨by decide +kernel, rfl⟩
theorem e_X10_chance_188 : DJ cX10_chance 188 196 191 (.ifCond .le) := DJ.mk 8 (by decide +kernel) (by decide) rfl
theorem e_X10_chance_196 : DC cX10_chance 196 2 198 (.lload 6) := ⟨by decide +kernel, rfl⟩
theorem e_X10_chance_0 : DC cX10_chance 0 1 1 (.aload_n 0) := ⟨by decide +kernel, rfl⟩
theorem e_X10_chance_1 : DC cX10_chance 1 1 2 (.iconst 0) := ⟨by decide +kernel, rfl⟩
theorem e_X10_chance_2 : DC cX10_chance 2 3 5 (.putfield 91) := ⟨by decide +kernel, rfl⟩
theorem e_X10_chance_5 : DC cX10_chance 5 1 6 (.iload_n 1) := ⟨by decide +kernel, rfl⟩
theorem e_X10_chance_6 : DC cX10_chance 6 1 7 (.iconst (-1)) := ⟨by decide +kernel, rfl⟩
theorem e_X10_chance_7 : DJ cX10_chance 7 30 10 (.if_icmp .lt) := DJ.mk 23 (by decide +kernel) (by decide) rfl
theorem e_X10_chance_30 : DC cX10_chance 30 3 33 (.ldc2_w 245) := ⟨by decide +kernel, rfl⟩
theorem e_X10_chance_33 : DC cX10_chance 33 1 34 (.lreturn) := ⟨by decide +kernel, rfl⟩
theorem e_X10_chance_10 : DC cX10_chance 10 1 11 (.iload_n 2) := ⟨by decide +kernel, rfl⟩
theorem e_X10_chance_11 : DC cX10_chance 11 1 12 (.iconst 1) := ⟨by decide +kernel, rfl⟩
theorem e_X10_chance_12 : DJ cX10_chance 12 30 15 (.if_icmp .lt) := DJ.mk 18 (by decide +kernel) (by decide) rfl
theorem e_X10_chance_15 : DC cX10_chance 15 1 16 (.iload_n 2) := ⟨by decide +kernel, rfl⟩
theorem e_X10_chance_16 : DC cX10_chance 16 2 18 (.bipush 10) := ⟨by decide +kernel, rfl⟩
theorem e_X10_chance_18 : DJ cX10_chance 18 30 21 (.if_icmp .gt) := DJ.mk 12 (by decide +kernel) (by decide) rfl
theorem e_X10_chance_21 : DC cX10_chance 21 1 22 (.iload_n 3) := ⟨by decide +kernel, rfl⟩
theorem e_X10_chance_22 : DJ cX10_chance 22 30 25 (.ifCond .lt) := DJ.mk 8 (by decide +kernel) (by decide) rfl
theorem e_X10_chance_25 : DC cX10_chance 25 1 26 (.iload_n 3) := ⟨by decide +kernel, rfl⟩
theorem e_X10_chance_26 : DC cX10_chance 26 1 27 (.iconst 2) := ⟨by decide +kernel, rfl⟩
theorem e_X10_chance_27 : DJ cX10_chance 27 34 30 (.if_icmp .le) := DJ.mk 7 (by decide +kernel) (by decide) rfl
theorem e_X10_chance_34 : DC cX10_chance 34 1 35 (.aload_n 0) := ⟨by decide +kernel, rfl⟩
theorem e_X10_chance_35 : DC cX10_chance 35 3 38 (.getfield 59) := ⟨by decide +kernel, rfl⟩
theorem e_X10_chance_38 : DC cX10_chance 38 3 41 (.sipush 744) := ⟨by decide +kernel, rfl⟩
theorem e_X10_chance_41 : DC cX10_chance 41 1 42 (.laload) := ⟨by decide +kernel, rfl⟩
theorem e_X10_chance_42 : DC cX10_chance 42 3 45 (.ldc2_w 362) := ⟨by decide +kernel, rfl⟩
theorem kc_X10_362 : Cond.constantLong RX10 362 12 ∈ tb := tb_in 1955 (by decide +kernel) (by decide +kernel)
theorem e_X10_chance_45 : DC cX10_chance 45 1 46 (.ladd) := ⟨by decide +kernel, rfl⟩
theorem e_X10_chance_46 : DC cX10_chance 46 3 49 (.ldc2_w 284) := ⟨by decide +kernel, rfl⟩
theorem e_X10_chance_49 : DC cX10_chance 49 1 50 (.lcmp) := ⟨by decide +kernel, rfl⟩
theorem e_X10_chance_50 : DJ cX10_chance 50 57 53 (.ifCond .le) := DJ.mk 7 (by decide +kernel) (by decide) rfl
theorem e_X10_chance_57 : DC cX10_chance 57 1 58 (.aload_n 0) := ⟨by decide +kernel, rfl⟩
theorem e_X10_chance_58 : DC cX10_chance 58 1 59 (.iload_n 1) := ⟨by decide +kernel, rfl⟩
theorem e_X10_chance_59 : DC cX10_chance 59 1 60 (.iconst (-1)) := ⟨by decide +kernel, rfl⟩
theorem e_X10_chance_60 : DJ cX10_chance 60 87 63 (.if_icmp .ne) := DJ.mk 27 (by decide +kernel) (by decide) rfl
theorem e_X10_chance_87 : DC cX10_chance 87 1 88 (.iload_n 1) := ⟨by decide +kernel, rfl⟩
theorem e_X10_chance_88 : DC cX10_chance 88 3 91 (.putfield 353) := ⟨by decide +kernel, rfl⟩
theorem e_X10_chance_91 : DC cX10_chance 91 1 92 (.lconst 0) := ⟨by decide +kernel, rfl⟩
theorem e_X10_chance_92 : DC cX10_chance 92 2 94 (.lstore 4) := ⟨by decide +kernel, rfl⟩
theorem e_X10_chance_94 : DC cX10_chance 94 1 95 (.lconst 0) := ⟨by decide +kernel, rfl⟩
theorem e_X10_chance_95 : DC cX10_chance 95 2 97 (.lstore 6) := ⟨by decide +kernel, rfl⟩
theorem e_X10_chance_97 : DC cX10_chance 97 1 98 (.lconst 0) := ⟨by decide +kernel, rfl⟩
theorem e_X10_chance_98 : DC cX10_chance 98 2 100 (.lstore 8) := ⟨by decide +kernel, rfl⟩
theorem e_X10_chance_100 : DC cX10_chance 100 1 101 (.aload_n 0) := ⟨by decide +kernel, rfl⟩
theorem e_X10_chance_101 : DC cX10_chance 101 3 104 (.getfield 59) := ⟨by decide +kernel, rfl⟩
theorem e_X10_chance_104 : DC cX10_chance 104 1 105 (.iconst 0) := ⟨by decide +kernel, rfl⟩
theorem e_X10_chance_105 : DC cX10_chance 105 1 106 (.aload_n 0) := ⟨by decide +kernel, rfl⟩
theorem e_X10_chance_106 : DC cX10_chance 106 3 109 (.getfield 66) := ⟨by decide +kernel, rfl⟩
theorem e_X10_chance_109 : DC cX10_chance 109 1 110 (.iconst 0) := ⟨by decide +kernel, rfl⟩
theorem e_X10_chance_110 : DC cX10_chance 110 3 113 (.invokestatic 230) := ⟨by decide +kernel, rfl⟩
theorem e_X10_chance_113 : DC cX10_chance 113 1 114 (.iconst 0) := ⟨by decide +kernel, rfl⟩
theorem e_X10_chance_114 : DC cX10_chance 114 2 116 (.istore 10) := ⟨by decide +kernel, rfl⟩
theorem e_X10_chance_63 : DC cX10_chance 63 1 64 (.aload_n 0) := ⟨by decide +kernel, rfl⟩
theorem e_X10_chance_64 : DC cX10_chance 64 3 67 (.getfield 13) := ⟨by decide +kernel, rfl⟩
theorem e_X10_chance_67 : DC cX10_chance 67 1 68 (.iconst 4) := ⟨by decide +kernel, rfl⟩
theorem e_X10_chance_68 : DC cX10_chance 68 1 69 (.iaload) := ⟨by decide +kernel, rfl⟩
theorem e_X10_chance_69 : DJ cX10_chance 69 76 72 (.ifCond .ne) := DJ.mk 7 (by decide +kernel) (by decide) rfl
theorem e_X10_chance_72 : DC cX10_chance 72 1 73 (.iconst 0) := ⟨by decide +kernel, rfl⟩
theorem e_X10_chance_73 : DJ cX10_chance 73 88 76 .goto := DJ.mk 15 (by decide +kernel) (by decide) rfl
set_option maxRecDepth 20000 in
theorem lp_chance1 {V : VX} {X : MX} {N : Nat} (F : Fx V X yX10_chance cX10_chance 13 (some .long) (rmd 2 0 0)) {m : Nat} {x z : Int32} {k i : Nat} (hk : ∀ (τ : Mem) (dr : Int32), ME V τ m 0 0 dr 12 0 0 → Wm V X 13 N τ 0 0 165 [(11, .int (nI 12)), (0, .ref m), (1, .int x), (2, .int (nI k)), (3, .int z), (4, .long 0), (6, .long 0), (8, .long 0), (10, .int (nI i))] []) : ∀ (n j : Nat) (τ : Mem) (dr : Int32), j ≤ 12 → 12 - j < n → ME V τ m 0 0 dr j 0 0 → Wm V X 13 N τ 0 0 125 [(11, .int (nI j)), (0, .ref m), (1, .int x), (2, .int (nI k)), (3, .int z), (4, .long 0), (6, .long 0), (8, .long 0), (10, .int (nI i))] [] := by
  intro n
  induction n with
  | zero => intro j τ dr h1 h2; exact absurd h2 (by omega)
  | succ n ih =>
    intro j τ dr h1 h2 hM
    obtain ⟨ho61, hn61, f61, ga61, gf61, gi61, gk61, hs61, ha61, hfu61, him61, hk61, ef61, ea61, eu61⟩ := hM
    refine m_iload F rfl e_X10_chance_125 ?_
    refine m_bipush F (v := 12) (by decide) e_X10_chance_127 ?_
    refine m_icmp_ge F e_X10_chance_129 (fun q129 => ?_) (fun q129 => ?_)
    · have c129 : j ≥ 12 := (nI_leI (a := 12) (b := j) (by omega) (by omega)).mp q129
      have hj9 : j = 12 := by omega
      subst hj9
      exact hk _ _ ⟨ho61, hn61, f61, ga61, gf61, gi61, gk61, hs61, ha61, hfu61, him61, hk61, ef61, ea61, eu61⟩
    · have c129 : j < 12 := by have hh := mt (nI_leI (a := 12) (b := j) (by omega) (by omega)).mpr q129; omega
      refine m_aload_n F rfl e_X10_chance_132 ?_
      refine m_aload_n F rfl e_X10_chance_133 ?_
      refine m_callV F e_X10_chance_134 (k_indexNow0 (x_l X) V _ _ m 0 0 dr j 0 0 ⟨ho61, hn61, f61, ga61, gf61, gi61, gk61, hs61, ha61, hfu61, him61, hk61, ef61, ea61, eu61⟩ (by omega)) cb_X10_indexNow ml_X10_260 im_X10_indexNow se_X10_indexNow ho61 rfl rfl (rest := [.ref m]) rfl (Nat.le_of_ble_eq_true rfl) ⟨Nat.le_of_ble_eq_true rfl, Nat.le_of_ble_eq_true rfl⟩ ⟨Nat.le_of_ble_eq_true rfl, Nat.le_of_ble_eq_true rfl⟩ (k' := 0) (z' := 0) (N' := N) rfl rfl rfl (fun r τ hp => ?_)
      obtain ⟨zi62, rfl, rfl⟩ := hp
      refine m_aload_n F rfl e_X10_chance_137 ?_
      refine m_bipush F (v := 21) (by decide) e_X10_chance_138 ?_
      refine m_callV F e_X10_chance_140 (k_draw0 (x_l X) V _ _ m 0 0 dr j 0 0  ⟨ho61, hn61, f61, ga61, gf61, gi61, gk61, hs61, ha61, hfu61, him61, hk61, ef61, ea61, eu61⟩ ) cb_X10_draw ml_X10_364 im_X10_draw se_X10_draw ho61 rfl rfl (rest := [.long zi62, .ref m]) rfl (Nat.le_of_ble_eq_true rfl) ⟨Nat.le_of_ble_eq_true rfl, Nat.le_of_ble_eq_true rfl⟩ ⟨Nat.le_of_ble_eq_true rfl, Nat.le_of_ble_eq_true rfl⟩ (k' := 0) (z' := 0) (N' := N) rfl rfl rfl (fun r τ63 hp => ?_)
      obtain ⟨xr, dn, rfl, hp⟩ := hp
      obtain ⟨ho64, hn64, f64, ga64, gf64, gi64, gk64, hs64, ha64, hfu64, him64, hk64, ef64, ea64, eu64⟩ := hp
      refine m_i2l F e_X10_chance_143 ?_
      refine m_ladd F e_X10_chance_144 ?_
      refine m_ldc2 F kc_X10_367 e_X10_chance_145 ?_
      refine m_lsub F e_X10_chance_148 ?_
      refine m_callS F e_X10_chance_149 (k_held (x_l X) V _ _ ((zi62 + (xr).toInt64) - 10)) cb_X10_held ml_X10_369 sm_X10_held rfl (rest := [.ref m]) rfl (Nat.le_of_ble_eq_true rfl) ⟨Nat.le_of_ble_eq_true rfl, Nat.le_of_ble_eq_true rfl⟩ ⟨Nat.le_of_ble_eq_true rfl, Nat.le_of_ble_eq_true rfl⟩ (k' := 0) (z' := 0) (N' := N) rfl rfl rfl (fun r τ hp => ?_)
      obtain ⟨zh65, rfl, rfl⟩ := hp
      refine m_callV F e_X10_chance_152 (k_becomes0 (x_l X) V _ _ m 0 0 dn j 0 0 zh65 ⟨ho64, hn64, f64, ga64, gf64, gi64, gk64, hs64, ha64, hfu64, him64, hk64, ef64, ea64, eu64⟩ (by omega)) cb_X10_becomes ml_X10_322 im_X10_becomes se_X10_becomes ho64 rfl rfl (rest := []) rfl (Nat.le_of_ble_eq_true rfl) ⟨Nat.le_of_ble_eq_true rfl, Nat.le_of_ble_eq_true rfl⟩ ⟨Nat.le_of_ble_eq_true rfl, Nat.le_of_ble_eq_true rfl⟩ (k' := 0) (z' := 0) (N' := N) rfl rfl rfl (fun r τ66 hp => ?_)
      obtain ⟨rfl, hp⟩ := hp
      obtain ⟨ho67, hn67, f67, ga67, gf67, gi67, gk67, hs67, ha67, hfu67, him67, hk67, ef67, ea67, eu67⟩ := hp
      refine m_aload_n F rfl e_X10_chance_155 ?_
      refine m_callV F e_X10_chance_156 (k_periodGoes0 (x_l X) V _ _ m 0 0 dn j 0 0  ⟨ho67, hn67, f67, ga67, gf67, gi67, gk67, hs67, ha67, hfu67, him67, hk67, ef67, ea67, eu67⟩ ) cb_X10_periodGoes ml_X10_289 im_X10_periodGoes se_X10_periodGoes ho67 rfl rfl (rest := []) rfl (Nat.le_of_ble_eq_true rfl) ⟨Nat.le_of_ble_eq_true rfl, Nat.le_of_ble_eq_true rfl⟩ ⟨Nat.le_of_ble_eq_true rfl, Nat.le_of_ble_eq_true rfl⟩ (k' := 0) (z' := 0) (N' := N) rfl rfl rfl (fun r τ68 hp => ?_)
      obtain ⟨rfl, hp⟩ := hp
      obtain ⟨ho69, hn69, f69, ga69, gf69, gi69, gk69, hs69, ha69, hfu69, him69, hk69, ef69, ea69, eu69⟩ := hp
      refine m_iinc F (v := nI (j + 1)) (lv' := [(11, .int (nI (j + 1))), (0, .ref m), (1, .int x), (2, .int (nI k)), (3, .int z), (4, .long 0), (6, .long 0), (8, .long 0), (10, .int (nI i))]) e_X10_chance_159 rfl (nI_add j 1) (by decide) rfl ?_
      refine m_goto F e_X10_chance_162 ?_
      exact ih (j + 1) _ _ (by omega) (by omega) ⟨ho69, hn69, f69, ga69, gf69, gi69, gk69, hs69, ha69, hfu69, him69, hk69, ef69, ea69, eu69⟩
set_option maxRecDepth 20000 in
theorem lp_chance2 {V : VX} {X : MX} {N : Nat} {Post : Option Value → Mem → Prop} (F : Fx V X yX10_chance cX10_chance 13 (some .long) (rmd 2 0 0)) (hQ : Rt V X 0 0 N Post) {m : Nat} {x z : Int32} {k : Nat} (hk : k ≤ 10) (hp : ∀ τ : Mem, Post (some (.long 0)) τ) : ∀ (n i : Nat) (τ : Mem) (dr : Int32), i ≤ k → k - i < n → ME V τ m 0 0 dr 0 0 0 → Wm V X 13 N τ 0 0 116 [(10, .int (nI i)), (0, .ref m), (1, .int x), (2, .int (nI k)), (3, .int z), (4, .long 0), (6, .long 0), (8, .long 0)] [] := by
  intro n
  induction n with
  | zero => intro i τ dr h1 h2; exact absurd h2 (by omega)
  | succ n ih =>
    intro i τ dr h1 h2 hM
    obtain ⟨ho70, hn70, f70, ga70, gf70, gi70, gk70, hs70, ha70, hfu70, him70, hk70, ef70, ea70, eu70⟩ := hM
    refine m_iload F rfl e_X10_chance_116 ?_
    refine m_iload_n F rfl e_X10_chance_118 ?_
    refine m_icmp_ge F e_X10_chance_119 (fun q119a => ?_) (fun q119a => ?_)
    · have c119a : i ≥ k := (nI_leI (a := k) (b := i) (by omega) (by omega)).mp q119a
      have hi9 : i = k := by omega
      subst hi9
      refine m_iload_n F rfl e_X10_chance_241 ?_
      refine m_if_ne F e_X10_chance_242 (fun q242a => ?_) (fun q242a => ?_)
      · refine m_iload_n F rfl e_X10_chance_250 ?_
        refine m_iconst F (v := 1) (by decide) e_X10_chance_251 ?_
        refine m_icmp_ne F e_X10_chance_252 (fun q252a => ?_) (fun q252a => ?_)
        · refine m_lload F rfl e_X10_chance_260 ?_
          exact m_lret F hQ e_X10_chance_262 (hp _)
        · refine m_lload F rfl e_X10_chance_255 ?_
          refine m_goto F e_X10_chance_257 ?_
          exact m_lret F hQ e_X10_chance_262 (hp _)
      · refine m_lload F rfl e_X10_chance_245 ?_
        refine m_goto F e_X10_chance_247 ?_
        exact m_lret F hQ e_X10_chance_262 (hp _)
    · have c119a : i < k := by have hh := mt (nI_leI (a := k) (b := i) (by omega) (by omega)).mpr q119a; omega
      refine m_iconst F (v := 0) (by decide) e_X10_chance_122 ?_
      refine m_istore F (lv' := [(11, .int 0), (10, .int (nI i)), (0, .ref m), (1, .int x), (2, .int (nI k)), (3, .int z), (4, .long 0), (6, .long 0), (8, .long 0)]) e_X10_chance_123 (by decide) rfl ?_
      refine Wm.lvsub (lv' := [(11, .int 0), (0, .ref m), (1, .int x), (2, .int (nI k)), (3, .int z), (4, .long 0), (6, .long 0), (8, .long 0), (10, .int (nI i))]) ?_ [0, 2, 3, 4, 5, 6, 7, 8, 1] rfl
      refine lp_chance1 F (fun τ dr hM => ?_) 13 0 _ _ (by omega) (by omega) ⟨ho70, hn70, f70, ga70, gf70, gi70, gk70, hs70, ha70, hfu70, him70, hk70, ef70, ea70, eu70⟩
      obtain ⟨ho71, hn71, f71, ga71, gf71, gi71, gk71, hs71, ha71, hfu71, him71, hk71, ef71, ea71, eu71⟩ := hM
      refine m_aload_n F rfl e_X10_chance_165 ?_
      refine m_callV F e_X10_chance_166 (k_owedAll0 (x_l X) V _ _ m 0 0 0 0 0 0 0 0 0 0 0 (-1) (nI 0) 0 dr  ho71 hn71 ) cb_X10_owedAll ml_X10_335 im_X10_owedAll se_X10_owedAll ho71 rfl rfl (rest := []) rfl (Nat.le_of_ble_eq_true rfl) ⟨Nat.le_of_ble_eq_true rfl, Nat.le_of_ble_eq_true rfl⟩ ⟨Nat.le_of_ble_eq_true rfl, Nat.le_of_ble_eq_true rfl⟩ (k' := 0) (z' := 0) (N' := N) rfl rfl rfl (fun r τ hp => ?_)
      obtain ⟨rfl, rfl⟩ := hp
      refine m_lstore F (lv' := [(11, .long 0), (0, .ref m), (1, .int x), (2, .int (nI k)), (3, .int z), (4, .long 0), (6, .long 0), (8, .long 0), (10, .int (nI i))]) e_X10_chance_169 (by decide) rfl ?_
      refine m_lload F rfl e_X10_chance_171 ?_
      refine m_lload F rfl e_X10_chance_173 ?_
      refine m_ladd F e_X10_chance_175 ?_
      refine Wm.toplE (w := 0) (by decide) ?_
      refine m_lstore F (lv' := [(4, .long 0), (11, .long 0), (0, .ref m), (1, .int x), (2, .int (nI k)), (3, .int z), (6, .long 0), (8, .long 0), (10, .int (nI i))]) e_X10_chance_176 (by decide) rfl ?_
      refine m_iload F rfl e_X10_chance_178 ?_
      refine m_if_eq F e_X10_chance_180 (fun q180a => ?_) (fun q180a => ?_)
      · have c180a : i = 0 := (nI_eq (a := i) (b := 0) (by omega) (by omega)).mp q180a
        refine m_lload F rfl e_X10_chance_191 ?_
        refine m_goto F e_X10_chance_193 ?_
        refine m_lstore F (lv' := [(6, .long 0), (4, .long 0), (11, .long 0), (0, .ref m), (1, .int x), (2, .int (nI k)), (3, .int z), (8, .long 0), (10, .int (nI i))]) e_X10_chance_198 (by decide) rfl ?_
        refine m_iload F rfl e_X10_chance_200 ?_
        refine m_if_eq F e_X10_chance_202 (fun q202a => ?_) (fun q202a => ?_)
        · have c202a : i = 0 := (nI_eq (a := i) (b := 0) (by omega) (by omega)).mp q202a
          refine m_lload F rfl e_X10_chance_213 ?_
          refine m_goto F e_X10_chance_215 ?_
          refine m_lstore F (lv' := [(8, .long 0), (6, .long 0), (4, .long 0), (11, .long 0), (0, .ref m), (1, .int x), (2, .int (nI k)), (3, .int z), (10, .int (nI i))]) e_X10_chance_220 (by decide) rfl ?_
          refine m_aload_n F rfl e_X10_chance_222 ?_
          refine m_get F e_X10_chance_223 fl_X10_66 ho71 rfl ?_
          refine m_iconst F (v := 0) (by decide) e_X10_chance_226 ?_
          refine m_aload_n F rfl e_X10_chance_227 ?_
          refine m_get F e_X10_chance_228 fl_X10_59 ho71 rfl ?_
          refine m_iconst F (v := 0) (by decide) e_X10_chance_231 ?_
          refine m_callS F e_X10_chance_232 (k_copies (x_l X) V _ _ (m + 18) (m + 16) 1113 1113 0 0 gf71 f71 (by omega) (by omega) (by omega) (by omega) (by omega) hfu71 hs71) cb_X10_copies ml_X10_230 sm_X10_copies rfl (rest := []) rfl (Nat.le_of_ble_eq_true rfl) ⟨Nat.le_of_ble_eq_true rfl, Nat.le_of_ble_eq_true rfl⟩ ⟨Nat.le_of_ble_eq_true rfl, Nat.le_of_ble_eq_true rfl⟩ (k' := 0) (z' := 0) (N' := N) rfl rfl rfl (fun r τ hp => ?_)
          obtain ⟨rfl, rfl⟩ := hp
          refine m_iinc F (v := nI (i + 1)) (lv' := [(10, .int (nI (i + 1))), (8, .long 0), (6, .long 0), (4, .long 0), (11, .long 0), (0, .ref m), (1, .int x), (2, .int (nI k)), (3, .int z)]) e_X10_chance_235 rfl (nI_add i 1) (by decide) rfl ?_
          refine m_goto F e_X10_chance_238 ?_
          refine Wm.lvsub (lv' := [(10, .int (nI (i + 1))), (0, .ref m), (1, .int x), (2, .int (nI k)), (3, .int z), (4, .long 0), (6, .long 0), (8, .long 0)]) ?_ [0, 5, 6, 7, 8, 3, 2, 1] rfl
          exact ih (i + 1) _ _ (by omega) (by omega) ⟨(ru_ne (by omega) ho71), (ru_ne (by omega) hn71), (cpJ gf71 f71 0 0 1113), ga71, gf71, gi71, gk71, ru_eq, (ru_ne (by omega) ha71), (ru_ne (by omega) hfu71), (ru_ne (by omega) him71), (ru_ne (by omega) hk71), ((cpJ_in (by omega) (by omega)).trans eu71), ea71, eu71⟩
        · have c202a : i ≠ 0 := by have hh := mt (nI_eq (a := i) (b := 0) (by omega) (by omega)).mpr q202a; omega
          refine m_lload F rfl e_X10_chance_205 ?_
          refine m_lload F rfl e_X10_chance_207 ?_
          refine m_lcmp F e_X10_chance_209 ?_
          refine Wm.topE (w := 0) (by decide) ?_
          refine m_if_ge F e_X10_chance_210 (fun _ => ?_) (fun q => absurd (by decide) q)
          refine m_lload F rfl e_X10_chance_218 ?_
          refine m_lstore F (lv' := [(8, .long 0), (6, .long 0), (4, .long 0), (11, .long 0), (0, .ref m), (1, .int x), (2, .int (nI k)), (3, .int z), (10, .int (nI i))]) e_X10_chance_220 (by decide) rfl ?_
          refine m_aload_n F rfl e_X10_chance_222 ?_
          refine m_get F e_X10_chance_223 fl_X10_66 ho71 rfl ?_
          refine m_iconst F (v := 0) (by decide) e_X10_chance_226 ?_
          refine m_aload_n F rfl e_X10_chance_227 ?_
          refine m_get F e_X10_chance_228 fl_X10_59 ho71 rfl ?_
          refine m_iconst F (v := 0) (by decide) e_X10_chance_231 ?_
          refine m_callS F e_X10_chance_232 (k_copies (x_l X) V _ _ (m + 18) (m + 16) 1113 1113 0 0 gf71 f71 (by omega) (by omega) (by omega) (by omega) (by omega) hfu71 hs71) cb_X10_copies ml_X10_230 sm_X10_copies rfl (rest := []) rfl (Nat.le_of_ble_eq_true rfl) ⟨Nat.le_of_ble_eq_true rfl, Nat.le_of_ble_eq_true rfl⟩ ⟨Nat.le_of_ble_eq_true rfl, Nat.le_of_ble_eq_true rfl⟩ (k' := 0) (z' := 0) (N' := N) rfl rfl rfl (fun r τ hp => ?_)
          obtain ⟨rfl, rfl⟩ := hp
          refine m_iinc F (v := nI (i + 1)) (lv' := [(10, .int (nI (i + 1))), (8, .long 0), (6, .long 0), (4, .long 0), (11, .long 0), (0, .ref m), (1, .int x), (2, .int (nI k)), (3, .int z)]) e_X10_chance_235 rfl (nI_add i 1) (by decide) rfl ?_
          refine m_goto F e_X10_chance_238 ?_
          refine Wm.lvsub (lv' := [(10, .int (nI (i + 1))), (0, .ref m), (1, .int x), (2, .int (nI k)), (3, .int z), (4, .long 0), (6, .long 0), (8, .long 0)]) ?_ [0, 5, 6, 7, 8, 3, 2, 1] rfl
          exact ih (i + 1) _ _ (by omega) (by omega) ⟨(ru_ne (by omega) ho71), (ru_ne (by omega) hn71), (cpJ gf71 f71 0 0 1113), ga71, gf71, gi71, gk71, ru_eq, (ru_ne (by omega) ha71), (ru_ne (by omega) hfu71), (ru_ne (by omega) him71), (ru_ne (by omega) hk71), ((cpJ_in (by omega) (by omega)).trans eu71), ea71, eu71⟩
      · have c180a : i ≠ 0 := by have hh := mt (nI_eq (a := i) (b := 0) (by omega) (by omega)).mpr q180a; omega
        refine m_lload F rfl e_X10_chance_183 ?_
        refine m_lload F rfl e_X10_chance_185 ?_
        refine m_lcmp F e_X10_chance_187 ?_
        refine Wm.topE (w := 0) (by decide) ?_
        refine m_if_le F e_X10_chance_188 (fun _ => ?_) (fun q => absurd (by decide) q)
        refine m_lload F rfl e_X10_chance_196 ?_
        refine m_lstore F (lv' := [(6, .long 0), (4, .long 0), (11, .long 0), (0, .ref m), (1, .int x), (2, .int (nI k)), (3, .int z), (8, .long 0), (10, .int (nI i))]) e_X10_chance_198 (by decide) rfl ?_
        refine m_iload F rfl e_X10_chance_200 ?_
        refine m_if_eq F e_X10_chance_202 (fun q202a => ?_) (fun q202a => ?_)
        · have c202a : i = 0 := (nI_eq (a := i) (b := 0) (by omega) (by omega)).mp q202a
          refine m_lload F rfl e_X10_chance_213 ?_
          refine m_goto F e_X10_chance_215 ?_
          refine m_lstore F (lv' := [(8, .long 0), (6, .long 0), (4, .long 0), (11, .long 0), (0, .ref m), (1, .int x), (2, .int (nI k)), (3, .int z), (10, .int (nI i))]) e_X10_chance_220 (by decide) rfl ?_
          refine m_aload_n F rfl e_X10_chance_222 ?_
          refine m_get F e_X10_chance_223 fl_X10_66 ho71 rfl ?_
          refine m_iconst F (v := 0) (by decide) e_X10_chance_226 ?_
          refine m_aload_n F rfl e_X10_chance_227 ?_
          refine m_get F e_X10_chance_228 fl_X10_59 ho71 rfl ?_
          refine m_iconst F (v := 0) (by decide) e_X10_chance_231 ?_
          refine m_callS F e_X10_chance_232 (k_copies (x_l X) V _ _ (m + 18) (m + 16) 1113 1113 0 0 gf71 f71 (by omega) (by omega) (by omega) (by omega) (by omega) hfu71 hs71) cb_X10_copies ml_X10_230 sm_X10_copies rfl (rest := []) rfl (Nat.le_of_ble_eq_true rfl) ⟨Nat.le_of_ble_eq_true rfl, Nat.le_of_ble_eq_true rfl⟩ ⟨Nat.le_of_ble_eq_true rfl, Nat.le_of_ble_eq_true rfl⟩ (k' := 0) (z' := 0) (N' := N) rfl rfl rfl (fun r τ hp => ?_)
          obtain ⟨rfl, rfl⟩ := hp
          refine m_iinc F (v := nI (i + 1)) (lv' := [(10, .int (nI (i + 1))), (8, .long 0), (6, .long 0), (4, .long 0), (11, .long 0), (0, .ref m), (1, .int x), (2, .int (nI k)), (3, .int z)]) e_X10_chance_235 rfl (nI_add i 1) (by decide) rfl ?_
          refine m_goto F e_X10_chance_238 ?_
          refine Wm.lvsub (lv' := [(10, .int (nI (i + 1))), (0, .ref m), (1, .int x), (2, .int (nI k)), (3, .int z), (4, .long 0), (6, .long 0), (8, .long 0)]) ?_ [0, 5, 6, 7, 8, 3, 2, 1] rfl
          exact ih (i + 1) _ _ (by omega) (by omega) ⟨(ru_ne (by omega) ho71), (ru_ne (by omega) hn71), (cpJ gf71 f71 0 0 1113), ga71, gf71, gi71, gk71, ru_eq, (ru_ne (by omega) ha71), (ru_ne (by omega) hfu71), (ru_ne (by omega) him71), (ru_ne (by omega) hk71), ((cpJ_in (by omega) (by omega)).trans eu71), ea71, eu71⟩
        · have c202a : i ≠ 0 := by have hh := mt (nI_eq (a := i) (b := 0) (by omega) (by omega)).mpr q202a; omega
          refine m_lload F rfl e_X10_chance_205 ?_
          refine m_lload F rfl e_X10_chance_207 ?_
          refine m_lcmp F e_X10_chance_209 ?_
          refine Wm.topE (w := 0) (by decide) ?_
          refine m_if_ge F e_X10_chance_210 (fun _ => ?_) (fun q => absurd (by decide) q)
          refine m_lload F rfl e_X10_chance_218 ?_
          refine m_lstore F (lv' := [(8, .long 0), (6, .long 0), (4, .long 0), (11, .long 0), (0, .ref m), (1, .int x), (2, .int (nI k)), (3, .int z), (10, .int (nI i))]) e_X10_chance_220 (by decide) rfl ?_
          refine m_aload_n F rfl e_X10_chance_222 ?_
          refine m_get F e_X10_chance_223 fl_X10_66 ho71 rfl ?_
          refine m_iconst F (v := 0) (by decide) e_X10_chance_226 ?_
          refine m_aload_n F rfl e_X10_chance_227 ?_
          refine m_get F e_X10_chance_228 fl_X10_59 ho71 rfl ?_
          refine m_iconst F (v := 0) (by decide) e_X10_chance_231 ?_
          refine m_callS F e_X10_chance_232 (k_copies (x_l X) V _ _ (m + 18) (m + 16) 1113 1113 0 0 gf71 f71 (by omega) (by omega) (by omega) (by omega) (by omega) hfu71 hs71) cb_X10_copies ml_X10_230 sm_X10_copies rfl (rest := []) rfl (Nat.le_of_ble_eq_true rfl) ⟨Nat.le_of_ble_eq_true rfl, Nat.le_of_ble_eq_true rfl⟩ ⟨Nat.le_of_ble_eq_true rfl, Nat.le_of_ble_eq_true rfl⟩ (k' := 0) (z' := 0) (N' := N) rfl rfl rfl (fun r τ hp => ?_)
          obtain ⟨rfl, rfl⟩ := hp
          refine m_iinc F (v := nI (i + 1)) (lv' := [(10, .int (nI (i + 1))), (8, .long 0), (6, .long 0), (4, .long 0), (11, .long 0), (0, .ref m), (1, .int x), (2, .int (nI k)), (3, .int z)]) e_X10_chance_235 rfl (nI_add i 1) (by decide) rfl ?_
          refine m_goto F e_X10_chance_238 ?_
          refine Wm.lvsub (lv' := [(10, .int (nI (i + 1))), (0, .ref m), (1, .int x), (2, .int (nI k)), (3, .int z), (4, .long 0), (6, .long 0), (8, .long 0)]) ?_ [0, 5, 6, 7, 8, 3, 2, 1] rfl
          exact ih (i + 1) _ _ (by omega) (by omega) ⟨(ru_ne (by omega) ho71), (ru_ne (by omega) hn71), (cpJ gf71 f71 0 0 1113), ga71, gf71, gi71, gk71, ru_eq, (ru_ne (by omega) ha71), (ru_ne (by omega) hfu71), (ru_ne (by omega) him71), (ru_ne (by omega) hk71), ((cpJ_in (by omega) (by omega)).trans eu71), ea71, eu71⟩
set_option maxRecDepth 20000 in
theorem n_chance (l : Launch) (V : VX) (N : Nat) (σ : Mem) (m : Nat) (x y z : Int32) (hZ : MZ V σ m) : Ct l V yX10_chance cX10_chance 13 (some .long) 2 0 0 N σ [.ref m, .int x, .int y, .int z] (fun r _ => r = some (.long (if x < -1 ∨ y < 1 ∨ 10 < y ∨ z < 0 ∨ 2 < z then -1 else 0))) := by
  refine Ct.of (by decide) (Nat.le_of_ble_eq_true rfl) [(0, .ref m), (1, .int x), (2, .int y), (3, .int z)] rfl (fun X hX F hQ => ?_)
  obtain ⟨z0, z1, z2, z3, z4, z5, z6, z7, z8, z9, z10, z11, z12, z13, z14, z15, z16, z17, z18, z19, z20, z21, z22⟩ := hZ
  refine m_aload_n F rfl e_X10_chance_0 ?_
  refine m_iconst F (v := 0) (by decide) e_X10_chance_1 ?_
  refine m_put F e_X10_chance_2 fp_X10_91 z0 rfl rfl (Nat.le_of_ble_eq_true rfl) (fs' := [.int 0, .ref (m + 1), .int 0, .ref (m + 2), .ref (m + 3), .ref (m + 4), .ref (m + 5), .ref (m + 6), .ref (m + 7), .ref (m + 8), .ref (m + 9), .ref (m + 10), .ref (m + 11), .ref (m + 12), .ref (m + 13), .ref (m + 14), .ref (m + 15), .int 0, .int 0, .int 0, .int 0, .int 0, .int 0, .int 0, .int 0, .int 0, .int (-1), .ref (m + 16), .ref (m + 17), .ref (m + 18), .ref (m + 19), .ref (m + 20), .int 0, .int 0, .ref (m + 21), .ref (m + 22), .int 0]) rfl (up_self z0).symm ?_
  refine m_iload_n F rfl e_X10_chance_5 ?_
  refine m_iconst F (v := (-1)) (by decide) e_X10_chance_6 ?_
  refine m_icmp_lt F e_X10_chance_7 (fun q7 => ?_) (fun q7 => ?_)
  · refine m_ldc2 F kc_X10_245 e_X10_chance_30 ?_
    exact m_lret F hQ e_X10_chance_33 (by rw [if_pos (Or.inl q7)])
  · refine m_iload_n F rfl e_X10_chance_10 ?_
    refine m_iconst F (v := 1) (by decide) e_X10_chance_11 ?_
    refine m_icmp_lt F e_X10_chance_12 (fun q12 => ?_) (fun q12 => ?_)
    · refine m_ldc2 F kc_X10_245 e_X10_chance_30 ?_
      exact m_lret F hQ e_X10_chance_33 (by rw [if_pos (Or.inr (Or.inl q12))])
    · refine m_iload_n F rfl e_X10_chance_15 ?_
      refine m_bipush F (v := 10) (by decide) e_X10_chance_16 ?_
      refine m_icmp_gt F e_X10_chance_18 (fun q18 => ?_) (fun q18 => ?_)
      · refine m_ldc2 F kc_X10_245 e_X10_chance_30 ?_
        exact m_lret F hQ e_X10_chance_33 (by rw [if_pos (Or.inr (Or.inr (Or.inl q18)))])
      · refine m_iload_n F rfl e_X10_chance_21 ?_
        refine m_if_lt F e_X10_chance_22 (fun q22 => ?_) (fun q22 => ?_)
        · refine m_ldc2 F kc_X10_245 e_X10_chance_30 ?_
          exact m_lret F hQ e_X10_chance_33 (by rw [if_pos (Or.inr (Or.inr (Or.inr (Or.inl q22))))])
        · refine m_iload_n F rfl e_X10_chance_25 ?_
          refine m_iconst F (v := 2) (by decide) e_X10_chance_26 ?_
          refine m_icmp_le F e_X10_chance_27 (fun q27 => ?_) (fun q27 => ?_)
          · obtain ⟨k, hk1, hk, ek⟩ := rng1 (x := y) (M := 10) (n := 10) (by decide) q12 (Int32.not_lt.mp q18)
            subst ek
            refine m_aload_n F rfl e_X10_chance_34 ?_
            refine m_get F e_X10_chance_35 fl_X10_59 z0 rfl ?_
            refine m_sipush F (v := 744) (by decide) e_X10_chance_38 ?_
            refine m_lald F (j := 744) e_X10_chance_41 z16 (by decide) (by unfold vp_in; decide) ?_
            refine Wm.toplE (w := lN 0) (sZ744) ?_
            refine m_ldc2 F kc_X10_362 e_X10_chance_42 ?_
            refine m_ladd F e_X10_chance_45 ?_
            refine Wm.toplE (w := lN (0 + 12)) (lN_add 0 12) ?_
            refine m_ldc2 F kc_X10_284 e_X10_chance_46 ?_
            refine m_lcmp F e_X10_chance_49 ?_
            refine m_if_le F e_X10_chance_50 (fun q50 => ?_) (fun q50 => ?_)
            · have c50 : (0 + 12) ≤ 99 := (lN_le (a := (0 + 12)) (b := 99) (by omega) (by omega)).mp ((lg_cmp_le _ _).mp q50)
              refine m_aload_n F rfl e_X10_chance_57 ?_
              refine m_iload_n F rfl e_X10_chance_58 ?_
              refine m_iconst F (v := (-1)) (by decide) e_X10_chance_59 ?_
              refine m_icmp_ne F e_X10_chance_60 (fun q60 => ?_) (fun q60 => ?_)
              · refine m_iload_n F rfl e_X10_chance_87 ?_
                refine m_put F e_X10_chance_88 fp_X10_353 z0 rfl rfl (Nat.le_of_ble_eq_true rfl) (fs' := [.int 0, .ref (m + 1), .int 0, .ref (m + 2), .ref (m + 3), .ref (m + 4), .ref (m + 5), .ref (m + 6), .ref (m + 7), .ref (m + 8), .ref (m + 9), .ref (m + 10), .ref (m + 11), .ref (m + 12), .ref (m + 13), .ref (m + 14), .ref (m + 15), .int 0, .int 0, .int 0, .int 0, .int 0, .int 0, .int 0, .int 0, .int 0, .int (-1), .ref (m + 16), .ref (m + 17), .ref (m + 18), .ref (m + 19), .ref (m + 20), .int 0, .int 0, .ref (m + 21), .ref (m + 22), .int x]) rfl rfl ?_
                refine m_lconst F (v := 0) (by decide) e_X10_chance_91 ?_
                refine m_lstore F (lv' := [(4, .long 0), (0, .ref m), (1, .int x), (2, .int (nI k)), (3, .int z)]) e_X10_chance_92 (by decide) rfl ?_
                refine m_lconst F (v := 0) (by decide) e_X10_chance_94 ?_
                refine m_lstore F (lv' := [(6, .long 0), (4, .long 0), (0, .ref m), (1, .int x), (2, .int (nI k)), (3, .int z)]) e_X10_chance_95 (by decide) rfl ?_
                refine m_lconst F (v := 0) (by decide) e_X10_chance_97 ?_
                refine m_lstore F (lv' := [(8, .long 0), (6, .long 0), (4, .long 0), (0, .ref m), (1, .int x), (2, .int (nI k)), (3, .int z)]) e_X10_chance_98 (by decide) rfl ?_
                refine m_aload_n F rfl e_X10_chance_100 ?_
                refine m_get F e_X10_chance_101 fl_X10_59 ru_eq rfl ?_
                refine m_iconst F (v := 0) (by decide) e_X10_chance_104 ?_
                refine m_aload_n F rfl e_X10_chance_105 ?_
                refine m_get F e_X10_chance_106 fl_X10_66 ru_eq rfl ?_
                refine m_iconst F (v := 0) (by decide) e_X10_chance_109 ?_
                refine m_callS F e_X10_chance_110 (k_copies (x_l X) V _ _ (m + 16) (m + 18) 1113 1113 0 0 sZ (fun _ => 0) (by omega) (by omega) (by omega) (by omega) (by omega) (ru_ne (by omega) z16) (ru_ne (by omega) z18)) cb_X10_copies ml_X10_230 sm_X10_copies rfl (rest := []) rfl (Nat.le_of_ble_eq_true rfl) ⟨Nat.le_of_ble_eq_true rfl, Nat.le_of_ble_eq_true rfl⟩ ⟨Nat.le_of_ble_eq_true rfl, Nat.le_of_ble_eq_true rfl⟩ (k' := 0) (z' := 0) (N' := N) rfl rfl rfl (fun r τ hp => ?_)
                obtain ⟨rfl, rfl⟩ := hp
                refine m_iconst F (v := 0) (by decide) e_X10_chance_113 ?_
                refine m_istore F (lv' := [(10, .int 0), (8, .long 0), (6, .long 0), (4, .long 0), (0, .ref m), (1, .int x), (2, .int (nI k)), (3, .int z)]) e_X10_chance_114 (by decide) rfl ?_
                refine Wm.lvsub (lv' := [(10, .int 0), (0, .ref m), (1, .int x), (2, .int (nI k)), (3, .int z), (4, .long 0), (6, .long 0), (8, .long 0)]) ?_ [0, 4, 5, 6, 7, 3, 2, 1] rfl
                exact lp_chance2 F hQ hk (fun τ => by rw [if_neg (fun h => h.elim q7 (fun h => h.elim q12 (fun h => h.elim q18 (fun h => h.elim q22 (fun h => absurd q27 (Int32.not_le.mpr h))))))]) (k + 1) 0 _ _ (by omega) (by omega) ⟨(ru_ne (by omega) ru_eq), (ru_ne (by omega) (ru_ne (by omega) z2)), sZ, (fun _ => 0), (cpJ sZ (fun _ => 0) 0 0 1113), (fun _ => 0), (fun _ => 0), (ru_ne (by omega) (ru_ne (by omega) z16)), (ru_ne (by omega) (ru_ne (by omega) z17)), ru_eq, (ru_ne (by omega) (ru_ne (by omega) z19)), (ru_ne (by omega) (ru_ne (by omega) z20)), sZ744, rfl, ((cpJ_in (by omega) (by omega)).trans sZ744)⟩
              · refine m_aload_n F rfl e_X10_chance_63 ?_
                refine m_get F e_X10_chance_64 fl_X10_13 z0 rfl ?_
                refine m_iconst F (v := 4) (by decide) e_X10_chance_67 ?_
                refine m_iald F (j := 4) e_X10_chance_68 z2 (by decide) (by unfold vp_in; decide) ?_
                refine Wm.topE (w := 0) (rfl) ?_
                refine m_if_ne F e_X10_chance_69 (fun q => absurd (by decide) q) (fun _ => ?_)
                refine m_iconst F (v := 0) (by decide) e_X10_chance_72 ?_
                refine m_goto F e_X10_chance_73 ?_
                refine m_put F e_X10_chance_88 fp_X10_353 z0 rfl rfl (Nat.le_of_ble_eq_true rfl) (fs' := [.int 0, .ref (m + 1), .int 0, .ref (m + 2), .ref (m + 3), .ref (m + 4), .ref (m + 5), .ref (m + 6), .ref (m + 7), .ref (m + 8), .ref (m + 9), .ref (m + 10), .ref (m + 11), .ref (m + 12), .ref (m + 13), .ref (m + 14), .ref (m + 15), .int 0, .int 0, .int 0, .int 0, .int 0, .int 0, .int 0, .int 0, .int 0, .int (-1), .ref (m + 16), .ref (m + 17), .ref (m + 18), .ref (m + 19), .ref (m + 20), .int 0, .int 0, .ref (m + 21), .ref (m + 22), .int 0]) rfl (up_self z0).symm ?_
                refine m_lconst F (v := 0) (by decide) e_X10_chance_91 ?_
                refine m_lstore F (lv' := [(4, .long 0), (0, .ref m), (1, .int x), (2, .int (nI k)), (3, .int z)]) e_X10_chance_92 (by decide) rfl ?_
                refine m_lconst F (v := 0) (by decide) e_X10_chance_94 ?_
                refine m_lstore F (lv' := [(6, .long 0), (4, .long 0), (0, .ref m), (1, .int x), (2, .int (nI k)), (3, .int z)]) e_X10_chance_95 (by decide) rfl ?_
                refine m_lconst F (v := 0) (by decide) e_X10_chance_97 ?_
                refine m_lstore F (lv' := [(8, .long 0), (6, .long 0), (4, .long 0), (0, .ref m), (1, .int x), (2, .int (nI k)), (3, .int z)]) e_X10_chance_98 (by decide) rfl ?_
                refine m_aload_n F rfl e_X10_chance_100 ?_
                refine m_get F e_X10_chance_101 fl_X10_59 z0 rfl ?_
                refine m_iconst F (v := 0) (by decide) e_X10_chance_104 ?_
                refine m_aload_n F rfl e_X10_chance_105 ?_
                refine m_get F e_X10_chance_106 fl_X10_66 z0 rfl ?_
                refine m_iconst F (v := 0) (by decide) e_X10_chance_109 ?_
                refine m_callS F e_X10_chance_110 (k_copies (x_l X) V _ _ (m + 16) (m + 18) 1113 1113 0 0 sZ (fun _ => 0) (by omega) (by omega) (by omega) (by omega) (by omega) z16 z18) cb_X10_copies ml_X10_230 sm_X10_copies rfl (rest := []) rfl (Nat.le_of_ble_eq_true rfl) ⟨Nat.le_of_ble_eq_true rfl, Nat.le_of_ble_eq_true rfl⟩ ⟨Nat.le_of_ble_eq_true rfl, Nat.le_of_ble_eq_true rfl⟩ (k' := 0) (z' := 0) (N' := N) rfl rfl rfl (fun r τ hp => ?_)
                obtain ⟨rfl, rfl⟩ := hp
                refine m_iconst F (v := 0) (by decide) e_X10_chance_113 ?_
                refine m_istore F (lv' := [(10, .int 0), (8, .long 0), (6, .long 0), (4, .long 0), (0, .ref m), (1, .int x), (2, .int (nI k)), (3, .int z)]) e_X10_chance_114 (by decide) rfl ?_
                refine Wm.lvsub (lv' := [(10, .int 0), (0, .ref m), (1, .int x), (2, .int (nI k)), (3, .int z), (4, .long 0), (6, .long 0), (8, .long 0)]) ?_ [0, 4, 5, 6, 7, 3, 2, 1] rfl
                exact lp_chance2 F hQ hk (fun τ => by rw [if_neg (fun h => h.elim q7 (fun h => h.elim q12 (fun h => h.elim q18 (fun h => h.elim q22 (fun h => absurd q27 (Int32.not_le.mpr h))))))]) (k + 1) 0 _ _ (by omega) (by omega) ⟨(ru_ne (by omega) z0), (ru_ne (by omega) z2), sZ, (fun _ => 0), (cpJ sZ (fun _ => 0) 0 0 1113), (fun _ => 0), (fun _ => 0), (ru_ne (by omega) z16), (ru_ne (by omega) z17), ru_eq, (ru_ne (by omega) z19), (ru_ne (by omega) z20), sZ744, rfl, ((cpJ_in (by omega) (by omega)).trans sZ744)⟩
            · have c50 : (0 + 12) > 99 := by have hh := mt (fun h9 => (lg_cmp_le (lN (0 + 12)) (lN 99)).mpr ((lN_le (a := (0 + 12)) (b := 99) (by omega) (by omega)).mpr h9)) q50; omega
              exfalso; omega
          · refine m_ldc2 F kc_X10_245 e_X10_chance_30 ?_
            exact m_lret F hQ e_X10_chance_33 (by rw [if_pos (Or.inr (Or.inr (Or.inr (Or.inr (Int32.not_le.mp q27)))))])
end
section
theorem e_X1_set_0 : DC cX1_set 0 1 1 (.aload_n 0) := ⟨by decide +kernel, rfl⟩
theorem e_X1_set_1 : DC cX1_set 1 1 2 (.lload_n 1) := ⟨by decide +kernel, rfl⟩
theorem e_X1_set_2 : DC cX1_set 2 2 4 (.bipush 42) := ⟨by decide +kernel, rfl⟩
theorem e_X1_set_4 : DC cX1_set 4 1 5 (.lshr) := ⟨by decide +kernel, rfl⟩
theorem e_X1_set_5 : DC cX1_set 5 3 8 (.putfield 9) := ⟨by decide +kernel, rfl⟩
theorem fp_X1_9 : FP RX1 9 0 0 false .long := ⟨RX1, TX1, 2, tyX1, rfl, by decide, uw_0, tb_in 74 (by decide +kernel) (by decide +kernel), rfl, rfl, by decide +kernel, tyX1_ok, nmX1⟩
theorem e_X1_set_8 : DC cX1_set 8 1 9 (.aload_n 0) := ⟨by decide +kernel, rfl⟩
theorem e_X1_set_9 : DC cX1_set 9 1 10 (.lload_n 1) := ⟨by decide +kernel, rfl⟩
theorem e_X1_set_10 : DC cX1_set 10 3 13 (.ldc2_w 13) := ⟨by decide +kernel, rfl⟩
theorem kc_X1_13 : Cond.constantLong RX1 13 4398046511103 ∈ tb := tb_in 485 (by decide +kernel) (by decide +kernel)
theorem e_X1_set_13 : DC cX1_set 13 1 14 (.land) := ⟨by decide +kernel, rfl⟩
theorem e_X1_set_14 : DC cX1_set 14 3 17 (.putfield 15) := ⟨by decide +kernel, rfl⟩
theorem fp_X1_15 : FP RX1 15 0 1 false .long := ⟨RX1, TX1, 2, tyX1, rfl, by decide, uw_0, tb_in 76 (by decide +kernel) (by decide +kernel), rfl, rfl, by decide +kernel, tyX1_ok, nmX1⟩
theorem e_X1_set_17 : DC cX1_set 17 1 18 (.return_) := ⟨by decide +kernel, rfl⟩
theorem e_X1_asLong_0 : DC cX1_asLong 0 1 1 (.aload_n 0) := ⟨by decide +kernel, rfl⟩
theorem e_X1_asLong_1 : DC cX1_asLong 1 3 4 (.getfield 9) := ⟨by decide +kernel, rfl⟩
theorem fl_X1_9 : FL RX1 9 0 0 := ⟨RX1, TX1, 2, rfl, by decide, uw_0, tb_in 74 (by decide +kernel) (by decide +kernel), rfl⟩
theorem e_X1_asLong_4 : DC cX1_asLong 4 2 6 (.bipush 42) := ⟨by decide +kernel, rfl⟩
theorem e_X1_asLong_6 : DC cX1_asLong 6 1 7 (.lshl) := ⟨by decide +kernel, rfl⟩
theorem e_X1_asLong_7 : DC cX1_asLong 7 1 8 (.aload_n 0) := ⟨by decide +kernel, rfl⟩
theorem e_X1_asLong_8 : DC cX1_asLong 8 3 11 (.getfield 15) := ⟨by decide +kernel, rfl⟩
theorem fl_X1_15 : FL RX1 15 0 1 := ⟨RX1, TX1, 2, rfl, by decide, uw_0, tb_in 76 (by decide +kernel) (by decide +kernel), rfl⟩
theorem e_X1_asLong_11 : DC cX1_asLong 11 1 12 (.ladd) := ⟨by decide +kernel, rfl⟩
theorem e_X1_asLong_12 : DC cX1_asLong 12 1 13 (.lreturn) := ⟨by decide +kernel, rfl⟩
theorem e_X1_isZero_0 : DC cX1_isZero 0 1 1 (.aload_n 0) := ⟨by decide +kernel, rfl⟩
theorem e_X1_isZero_1 : DC cX1_isZero 1 3 4 (.getfield 9) := ⟨by decide +kernel, rfl⟩
theorem e_X1_isZero_4 : DC cX1_isZero 4 1 5 (.lconst 0) := ⟨by decide +kernel, rfl⟩
theorem e_X1_isZero_5 : DC cX1_isZero 5 1 6 (.lcmp) := ⟨by decide +kernel, rfl⟩
theorem e_X1_isZero_6 : DJ cX1_isZero 6 22 9 (.ifCond .ne) := DJ.mk 16 (by decide +kernel) (by decide) rfl
theorem e_X1_isZero_9 : DC cX1_isZero 9 1 10 (.aload_n 0) := ⟨by decide +kernel, rfl⟩
theorem e_X1_isZero_10 : DC cX1_isZero 10 3 13 (.getfield 15) := ⟨by decide +kernel, rfl⟩
theorem e_X1_isZero_13 : DC cX1_isZero 13 1 14 (.lconst 0) := ⟨by decide +kernel, rfl⟩
theorem e_X1_isZero_14 : DC cX1_isZero 14 1 15 (.lcmp) := ⟨by decide +kernel, rfl⟩
theorem e_X1_isZero_15 : DJ cX1_isZero 15 22 18 (.ifCond .ne) := DJ.mk 7 (by decide +kernel) (by decide) rfl
theorem e_X1_isZero_18 : DC cX1_isZero 18 1 19 (.iconst 1) := ⟨by decide +kernel, rfl⟩
theorem e_X1_isZero_19 : DJ cX1_isZero 19 23 22 .goto := DJ.mk 4 (by decide +kernel) (by decide) rfl
theorem e_X1_isZero_23 : DC cX1_isZero 23 1 24 (.ireturn) := ⟨by decide +kernel, rfl⟩
theorem e_X1_isGreaterShare_0 : DC cX1_isGreaterShare 0 1 1 (.aload_n 0) := ⟨by decide +kernel, rfl⟩
theorem e_X1_isGreaterShare_1 : DC cX1_isGreaterShare 1 3 4 (.getfield 15) := ⟨by decide +kernel, rfl⟩
theorem e_X1_isGreaterShare_4 : DC cX1_isGreaterShare 4 1 5 (.iload_n 3) := ⟨by decide +kernel, rfl⟩
theorem e_X1_isGreaterShare_5 : DC cX1_isGreaterShare 5 1 6 (.i2l) := ⟨by decide +kernel, rfl⟩
theorem e_X1_isGreaterShare_6 : DC cX1_isGreaterShare 6 1 7 (.lmul) := ⟨by decide +kernel, rfl⟩
theorem e_X1_isGreaterShare_7 : DC cX1_isGreaterShare 7 2 9 (.lstore 4) := ⟨by decide +kernel, rfl⟩
theorem e_X1_isGreaterShare_9 : DC cX1_isGreaterShare 9 1 10 (.aload_n 0) := ⟨by decide +kernel, rfl⟩
theorem e_X1_isGreaterShare_10 : DC cX1_isGreaterShare 10 3 13 (.getfield 9) := ⟨by decide +kernel, rfl⟩
theorem e_X1_isGreaterShare_13 : DC cX1_isGreaterShare 13 1 14 (.iload_n 3) := ⟨by decide +kernel, rfl⟩
theorem e_X1_isGreaterShare_14 : DC cX1_isGreaterShare 14 1 15 (.i2l) := ⟨by decide +kernel, rfl⟩
theorem e_X1_isGreaterShare_15 : DC cX1_isGreaterShare 15 1 16 (.lmul) := ⟨by decide +kernel, rfl⟩
theorem e_X1_isGreaterShare_16 : DC cX1_isGreaterShare 16 2 18 (.lload 4) := ⟨by decide +kernel, rfl⟩
theorem e_X1_isGreaterShare_18 : DC cX1_isGreaterShare 18 2 20 (.bipush 42) := ⟨by decide +kernel, rfl⟩
theorem e_X1_isGreaterShare_20 : DC cX1_isGreaterShare 20 1 21 (.lshr) := ⟨by decide +kernel, rfl⟩
theorem e_X1_isGreaterShare_21 : DC cX1_isGreaterShare 21 1 22 (.ladd) := ⟨by decide +kernel, rfl⟩
theorem e_X1_isGreaterShare_22 : DC cX1_isGreaterShare 22 2 24 (.lstore 6) := ⟨by decide +kernel, rfl⟩
theorem e_X1_isGreaterShare_24 : DC cX1_isGreaterShare 24 1 25 (.aload_n 2) := ⟨by decide +kernel, rfl⟩
theorem e_X1_isGreaterShare_25 : DC cX1_isGreaterShare 25 3 28 (.getfield 15) := ⟨by decide +kernel, rfl⟩
theorem e_X1_isGreaterShare_28 : DC cX1_isGreaterShare 28 1 29 (.iload_n 1) := ⟨by decide +kernel, rfl⟩
theorem e_X1_isGreaterShare_29 : DC cX1_isGreaterShare 29 1 30 (.i2l) := ⟨by decide +kernel, rfl⟩
theorem e_X1_isGreaterShare_30 : DC cX1_isGreaterShare 30 1 31 (.lmul) := ⟨by decide +kernel, rfl⟩
theorem e_X1_isGreaterShare_31 : DC cX1_isGreaterShare 31 2 33 (.lstore 8) := ⟨by decide +kernel, rfl⟩
theorem e_X1_isGreaterShare_33 : DC cX1_isGreaterShare 33 1 34 (.aload_n 2) := ⟨by decide +kernel, rfl⟩
theorem e_X1_isGreaterShare_34 : DC cX1_isGreaterShare 34 3 37 (.getfield 9) := ⟨by decide +kernel, rfl⟩
theorem e_X1_isGreaterShare_37 : DC cX1_isGreaterShare 37 1 38 (.iload_n 1) := ⟨by decide +kernel, rfl⟩
theorem e_X1_isGreaterShare_38 : DC cX1_isGreaterShare 38 1 39 (.i2l) := ⟨by decide +kernel, rfl⟩
theorem e_X1_isGreaterShare_39 : DC cX1_isGreaterShare 39 1 40 (.lmul) := ⟨by decide +kernel, rfl⟩
theorem e_X1_isGreaterShare_40 : DC cX1_isGreaterShare 40 2 42 (.lload 8) := ⟨by decide +kernel, rfl⟩
theorem e_X1_isGreaterShare_42 : DC cX1_isGreaterShare 42 2 44 (.bipush 42) := ⟨by decide +kernel, rfl⟩
theorem e_X1_isGreaterShare_44 : DC cX1_isGreaterShare 44 1 45 (.lshr) := ⟨by decide +kernel, rfl⟩
theorem e_X1_isGreaterShare_45 : DC cX1_isGreaterShare 45 1 46 (.ladd) := ⟨by decide +kernel, rfl⟩
theorem e_X1_isGreaterShare_46 : DC cX1_isGreaterShare 46 2 48 (.lstore 10) := ⟨by decide +kernel, rfl⟩
theorem e_X1_isGreaterShare_48 : DC cX1_isGreaterShare 48 2 50 (.lload 6) := ⟨by decide +kernel, rfl⟩
theorem e_X1_isGreaterShare_50 : DC cX1_isGreaterShare 50 2 52 (.lload 10) := ⟨by decide +kernel, rfl⟩
theorem e_X1_isGreaterShare_52 : DC cX1_isGreaterShare 52 1 53 (.lcmp) := ⟨by decide +kernel, rfl⟩
theorem e_X1_isGreaterShare_53 : DJ cX1_isGreaterShare 53 80 56 (.ifCond .gt) := DJ.mk 27 (by decide +kernel) (by decide) rfl
theorem e_X1_isGreaterShare_56 : DC cX1_isGreaterShare 56 2 58 (.lload 6) := ⟨by decide +kernel, rfl⟩
theorem e_X1_isGreaterShare_58 : DC cX1_isGreaterShare 58 2 60 (.lload 10) := ⟨by decide +kernel, rfl⟩
theorem e_X1_isGreaterShare_60 : DC cX1_isGreaterShare 60 1 61 (.lcmp) := ⟨by decide +kernel, rfl⟩
theorem e_X1_isGreaterShare_61 : DJ cX1_isGreaterShare 61 84 64 (.ifCond .ne) := DJ.mk 23 (by decide +kernel) (by decide) rfl
theorem e_X1_isGreaterShare_64 : DC cX1_isGreaterShare 64 2 66 (.lload 4) := ⟨by decide +kernel, rfl⟩
theorem e_X1_isGreaterShare_66 : DC cX1_isGreaterShare 66 3 69 (.ldc2_w 13) := ⟨by decide +kernel, rfl⟩
theorem e_X1_isGreaterShare_69 : DC cX1_isGreaterShare 69 1 70 (.land) := ⟨by decide +kernel, rfl⟩
theorem e_X1_isGreaterShare_70 : DC cX1_isGreaterShare 70 2 72 (.lload 8) := ⟨by decide +kernel, rfl⟩
theorem e_X1_isGreaterShare_72 : DC cX1_isGreaterShare 72 3 75 (.ldc2_w 13) := ⟨by decide +kernel, rfl⟩
theorem e_X1_isGreaterShare_75 : DC cX1_isGreaterShare 75 1 76 (.land) := ⟨by decide +kernel, rfl⟩
theorem e_X1_isGreaterShare_76 : DC cX1_isGreaterShare 76 1 77 (.lcmp) := ⟨by decide +kernel, rfl⟩
theorem e_X1_isGreaterShare_77 : DJ cX1_isGreaterShare 77 84 80 (.ifCond .le) := DJ.mk 7 (by decide +kernel) (by decide) rfl
theorem e_X1_isGreaterShare_84 : DC cX1_isGreaterShare 84 1 85 (.iconst 0) := ⟨by decide +kernel, rfl⟩
theorem e_X1_isGreaterShare_85 : DC cX1_isGreaterShare 85 1 86 (.ireturn) := ⟨by decide +kernel, rfl⟩
theorem e_X1_isAbove_0 : DC cX1_isAbove 0 1 1 (.aload_n 0) := ⟨by decide +kernel, rfl⟩
theorem e_X1_isAbove_1 : DC cX1_isAbove 1 1 2 (.iconst 1) := ⟨by decide +kernel, rfl⟩
theorem e_X1_isAbove_2 : DC cX1_isAbove 2 1 3 (.aload_n 1) := ⟨by decide +kernel, rfl⟩
theorem e_X1_isAbove_3 : DC cX1_isAbove 3 1 4 (.iconst 1) := ⟨by decide +kernel, rfl⟩
theorem e_X1_isAbove_4 : DC cX1_isAbove 4 3 7 (.invokevirtual 18) := ⟨by decide +kernel, rfl⟩
theorem cb_X1_isGreaterShare : CB yX1_isGreaterShare cX1_isGreaterShare 12 (some .boolean) 3 := ⟨tb_in 1250 (by decide +kernel) (by decide +kernel), tb_in 4 (by decide +kernel) (by decide +kernel), by decide +kernel⟩
theorem ml_X1_18 : Cond.methodLink RX1 18 yX1_isGreaterShare ∈ tb := tb_in 1281 (by decide +kernel) (by decide +kernel)
theorem im_X1_isGreaterShare : Cond.instanceMethod yX1_isGreaterShare ∈ tb := tb_in 1248 (by decide +kernel) (by decide +kernel)
theorem se_X1_isGreaterShare : Cond.selects (yX1_isGreaterShare).cls yX1_isGreaterShare yX1_isGreaterShare ∈ tb := tb_in 1249 (by decide +kernel) (by decide +kernel)
theorem e_X1_isAbove_7 : DC cX1_isAbove 7 1 8 (.ireturn) := ⟨by decide +kernel, rfl⟩
theorem e_X1_copyFrom_0 : DC cX1_copyFrom 0 1 1 (.aload_n 0) := ⟨by decide +kernel, rfl⟩
theorem e_X1_copyFrom_1 : DC cX1_copyFrom 1 1 2 (.aload_n 1) := ⟨by decide +kernel, rfl⟩
theorem e_X1_copyFrom_2 : DC cX1_copyFrom 2 3 5 (.getfield 9) := ⟨by decide +kernel, rfl⟩
theorem e_X1_copyFrom_5 : DC cX1_copyFrom 5 3 8 (.putfield 9) := ⟨by decide +kernel, rfl⟩
theorem e_X1_copyFrom_8 : DC cX1_copyFrom 8 1 9 (.aload_n 0) := ⟨by decide +kernel, rfl⟩
theorem e_X1_copyFrom_9 : DC cX1_copyFrom 9 1 10 (.aload_n 1) := ⟨by decide +kernel, rfl⟩
theorem e_X1_copyFrom_10 : DC cX1_copyFrom 10 3 13 (.getfield 15) := ⟨by decide +kernel, rfl⟩
theorem e_X1_copyFrom_13 : DC cX1_copyFrom 13 3 16 (.putfield 15) := ⟨by decide +kernel, rfl⟩
theorem e_X1_copyFrom_16 : DC cX1_copyFrom 16 1 17 (.return_) := ⟨by decide +kernel, rfl⟩
theorem e_X3_kept_0 : DC cX3_kept 0 1 1 (.aload_n 0) := ⟨by decide +kernel, rfl⟩
theorem e_X3_kept_1 : DC cX3_kept 1 3 4 (.getfield 18) := ⟨by decide +kernel, rfl⟩
theorem fl_X3_18 : FL RX3 18 2 2 := ⟨RX3, TX3, 3, rfl, by decide, uw_2, tb_in 56 (by decide +kernel) (by decide +kernel), rfl⟩
theorem e_X3_kept_4 : DC cX3_kept 4 2 6 (.bipush 40) := ⟨by decide +kernel, rfl⟩
theorem e_X3_kept_6 : DC cX3_kept 6 3 9 (.invokestatic 34) := ⟨by decide +kernel, rfl⟩
theorem ml_X3_34 : Cond.methodLink RX3 34 Lib.Math.min.name ∈ tb := tb_in 1086 (by decide +kernel) (by decide +kernel)
theorem sm_min : Cond.static Lib.Math.min.name ∈ tb := tb_in 398 (by decide +kernel) (by decide +kernel)
theorem ini_math : Cond.initialized "java/lang/Math" ∈ tb := tb_in 11 (by decide +kernel) (by decide +kernel)
theorem co_min : Cond.code Lib.Math.min.name Lib.Math.min.code 2 (some .int) ∈ tb := tb_in 399 (by decide +kernel) (by decide +kernel)
theorem e_X3_kept_9 : DC cX3_kept 9 1 10 (.ireturn) := ⟨by decide +kernel, rfl⟩
theorem e_X3_copyFrom_0 : DC cX3_copyFrom 0 1 1 (.aload_n 0) := ⟨by decide +kernel, rfl⟩
theorem e_X3_copyFrom_1 : DC cX3_copyFrom 1 1 2 (.aload_n 1) := ⟨by decide +kernel, rfl⟩
theorem e_X3_copyFrom_2 : DC cX3_copyFrom 2 3 5 (.getfield 18) := ⟨by decide +kernel, rfl⟩
theorem e_X3_copyFrom_5 : DC cX3_copyFrom 5 3 8 (.putfield 18) := ⟨by decide +kernel, rfl⟩
theorem fp_X3_18 : FP RX3 18 2 2 false .int := ⟨RX3, TX3, 3, tyX3, rfl, by decide, uw_2, tb_in 56 (by decide +kernel) (by decide +kernel), rfl, rfl, by decide +kernel, tyX3_ok, nmX3⟩
theorem e_X3_copyFrom_8 : DC cX3_copyFrom 8 1 9 (.aload_n 1) := ⟨by decide +kernel, rfl⟩
theorem e_X3_copyFrom_9 : DC cX3_copyFrom 9 3 12 (.getfield 11) := ⟨by decide +kernel, rfl⟩
theorem fl_X3_11 : FL RX3 11 2 0 := ⟨RX3, TX3, 3, rfl, by decide, uw_2, tb_in 53 (by decide +kernel) (by decide +kernel), rfl⟩
theorem e_X3_copyFrom_12 : DC cX3_copyFrom 12 1 13 (.iconst 0) := ⟨by decide +kernel, rfl⟩
theorem e_X3_copyFrom_13 : DC cX3_copyFrom 13 1 14 (.aload_n 0) := ⟨by decide +kernel, rfl⟩
theorem e_X3_copyFrom_14 : DC cX3_copyFrom 14 3 17 (.getfield 11) := ⟨by decide +kernel, rfl⟩
theorem e_X3_copyFrom_17 : DC cX3_copyFrom 17 1 18 (.iconst 0) := ⟨by decide +kernel, rfl⟩
theorem e_X3_copyFrom_18 : DC cX3_copyFrom 18 3 21 (.sipush 360) := ⟨by decide +kernel, rfl⟩
theorem e_X3_copyFrom_21 : DC cX3_copyFrom 21 3 24 (.invokestatic 28) := ⟨by decide +kernel, rfl⟩
theorem ac_X3_28 : AC RX3 28 := ⟨tb_in 950 (by decide +kernel) (by decide +kernel), tb_in 620 (by decide +kernel) (by decide +kernel), tb_in 619 (by decide +kernel) (by decide +kernel), tb_in 23 (by decide +kernel) (by decide +kernel)⟩
theorem e_X3_copyFrom_24 : DC cX3_copyFrom 24 1 25 (.aload_n 1) := ⟨by decide +kernel, rfl⟩
theorem e_X3_copyFrom_25 : DC cX3_copyFrom 25 3 28 (.getfield 15) := ⟨by decide +kernel, rfl⟩
theorem fl_X3_15 : FL RX3 15 2 1 := ⟨RX3, TX3, 3, rfl, by decide, uw_2, tb_in 54 (by decide +kernel) (by decide +kernel), rfl⟩
theorem e_X3_copyFrom_28 : DC cX3_copyFrom 28 1 29 (.iconst 0) := ⟨by decide +kernel, rfl⟩
theorem e_X3_copyFrom_29 : DC cX3_copyFrom 29 1 30 (.aload_n 0) := ⟨by decide +kernel, rfl⟩
theorem e_X3_copyFrom_30 : DC cX3_copyFrom 30 3 33 (.getfield 15) := ⟨by decide +kernel, rfl⟩
theorem e_X3_copyFrom_33 : DC cX3_copyFrom 33 1 34 (.iconst 0) := ⟨by decide +kernel, rfl⟩
theorem e_X3_copyFrom_34 : DC cX3_copyFrom 34 2 36 (.bipush 6) := ⟨by decide +kernel, rfl⟩
theorem e_X3_copyFrom_36 : DC cX3_copyFrom 36 3 39 (.invokestatic 28) := ⟨by decide +kernel, rfl⟩
theorem e_X3_copyFrom_39 : DC cX3_copyFrom 39 1 40 (.return_) := ⟨by decide +kernel, rfl⟩
theorem e_X2_periodGoesBy_0 : DC cX2_periodGoesBy 0 1 1 (.aload_n 0) := ⟨by decide +kernel, rfl⟩
theorem e_X2_periodGoesBy_1 : DC cX2_periodGoesBy 1 3 4 (.getfield 40) := ⟨by decide +kernel, rfl⟩
theorem fl_X2_40 : FL RX2 40 1 5 := ⟨RX2, TX2, 13, rfl, by decide, uw_1, tb_in 234 (by decide +kernel) (by decide +kernel), rfl⟩
theorem e_X2_periodGoesBy_4 : DC cX2_periodGoesBy 4 1 5 (.lconst 0) := ⟨by decide +kernel, rfl⟩
theorem e_X2_periodGoesBy_5 : DC cX2_periodGoesBy 5 3 8 (.invokevirtual 132) := ⟨by decide +kernel, rfl⟩
theorem cb_X1_set : CB yX1_set cX1_set 3 none 1 := ⟨tb_in 484 (by decide +kernel) (by decide +kernel), tb_in 4 (by decide +kernel) (by decide +kernel), by decide +kernel⟩
theorem ml_X2_132 : Cond.methodLink RX2 132 yX1_set ∈ tb := tb_in 973 (by decide +kernel) (by decide +kernel)
theorem im_X1_set : Cond.instanceMethod yX1_set ∈ tb := tb_in 482 (by decide +kernel) (by decide +kernel)
theorem se_X1_set : Cond.selects (yX1_set).cls yX1_set yX1_set ∈ tb := tb_in 483 (by decide +kernel) (by decide +kernel)
theorem e_X2_periodGoesBy_8 : DC cX2_periodGoesBy 8 1 9 (.aload_n 0) := ⟨by decide +kernel, rfl⟩
theorem e_X2_periodGoesBy_9 : DC cX2_periodGoesBy 9 3 12 (.getfield 68) := ⟨by decide +kernel, rfl⟩
theorem fl_X2_68 : FL RX2 68 1 11 := ⟨RX2, TX2, 13, rfl, by decide, uw_1, tb_in 246 (by decide +kernel) (by decide +kernel), rfl⟩
theorem e_X2_periodGoesBy_12 : DC cX2_periodGoesBy 12 2 14 (.bipush 99) := ⟨by decide +kernel, rfl⟩
theorem e_X2_periodGoesBy_14 : DJ cX2_periodGoesBy 14 18 17 (.if_icmp .lt) := DJ.mk 4 (by decide +kernel) (by decide) rfl
theorem e_X2_periodGoesBy_18 : DC cX2_periodGoesBy 18 1 19 (.iconst 0) := ⟨by decide +kernel, rfl⟩
theorem e_X2_periodGoesBy_19 : DC cX2_periodGoesBy 19 1 20 (.istore_n 1) := ⟨by decide +kernel, rfl⟩
theorem e_X2_periodGoesBy_20 : DC cX2_periodGoesBy 20 1 21 (.iload_n 1) := ⟨by decide +kernel, rfl⟩
theorem e_X2_periodGoesBy_21 : DC cX2_periodGoesBy 21 1 22 (.aload_n 0) := ⟨by decide +kernel, rfl⟩
theorem e_X2_periodGoesBy_22 : DC cX2_periodGoesBy 22 3 25 (.getfield 58) := ⟨by decide +kernel, rfl⟩
theorem fl_X2_58 : FL RX2 58 1 8 := ⟨RX2, TX2, 13, rfl, by decide, uw_1, tb_in 238 (by decide +kernel) (by decide +kernel), rfl⟩
theorem e_X2_periodGoesBy_25 : DJ cX2_periodGoesBy 25 123 28 (.if_icmp .ge) := DJ.mk 98 (by decide +kernel) (by decide) rfl
theorem e_X2_periodGoesBy_123 : DC cX2_periodGoesBy 123 1 124 (.aload_n 0) := ⟨by decide +kernel, rfl⟩
theorem e_X2_periodGoesBy_124 : DC cX2_periodGoesBy 124 1 125 (.dup) := ⟨by decide +kernel, rfl⟩
theorem e_X2_periodGoesBy_125 : DC cX2_periodGoesBy 125 3 128 (.getfield 68) := ⟨by decide +kernel, rfl⟩
theorem e_X2_periodGoesBy_128 : DC cX2_periodGoesBy 128 1 129 (.iconst 1) := ⟨by decide +kernel, rfl⟩
theorem e_X2_periodGoesBy_129 : DC cX2_periodGoesBy 129 1 130 (.iadd) := ⟨by decide +kernel, rfl⟩
theorem e_X2_periodGoesBy_130 : DC cX2_periodGoesBy 130 3 133 (.putfield 68) := ⟨by decide +kernel, rfl⟩
theorem fp_X2_68 : FP RX2 68 1 11 false .int := ⟨RX2, TX2, 13, tyX2, rfl, by decide, uw_1, tb_in 246 (by decide +kernel) (by decide +kernel), rfl, rfl, by decide +kernel, tyX2_ok, nmX2⟩
theorem e_X2_periodGoesBy_133 : DC cX2_periodGoesBy 133 1 134 (.return_) := ⟨by decide +kernel, rfl⟩
theorem e_X2_leaseNamed_0 : DC cX2_leaseNamed 0 1 1 (.iconst 0) := ⟨by decide +kernel, rfl⟩
theorem e_X2_leaseNamed_1 : DC cX2_leaseNamed 1 1 2 (.istore_n 2) := ⟨by decide +kernel, rfl⟩
theorem e_X2_leaseNamed_2 : DC cX2_leaseNamed 2 1 3 (.iload_n 2) := ⟨by decide +kernel, rfl⟩
theorem e_X2_leaseNamed_3 : DC cX2_leaseNamed 3 1 4 (.aload_n 0) := ⟨by decide +kernel, rfl⟩
theorem e_X2_leaseNamed_4 : DC cX2_leaseNamed 4 3 7 (.getfield 58) := ⟨by decide +kernel, rfl⟩
theorem e_X2_leaseNamed_7 : DJ cX2_leaseNamed 7 31 10 (.if_icmp .ge) := DJ.mk 24 (by decide +kernel) (by decide) rfl
theorem e_X2_leaseNamed_31 : DC cX2_leaseNamed 31 1 32 (.iconst (-1)) := ⟨by decide +kernel, rfl⟩
theorem e_X2_leaseNamed_32 : DC cX2_leaseNamed 32 1 33 (.ireturn) := ⟨by decide +kernel, rfl⟩
theorem e_X2_findRates_0 : DC cX2_findRates 0 1 1 (.iconst 0) := ⟨by decide +kernel, rfl⟩
theorem e_X2_findRates_1 : DC cX2_findRates 1 1 2 (.istore_n 2) := ⟨by decide +kernel, rfl⟩
theorem e_X2_findRates_2 : DC cX2_findRates 2 1 3 (.iload_n 2) := ⟨by decide +kernel, rfl⟩
theorem e_X2_findRates_3 : DC cX2_findRates 3 1 4 (.aload_n 0) := ⟨by decide +kernel, rfl⟩
theorem e_X2_findRates_4 : DC cX2_findRates 4 3 7 (.getfield 58) := ⟨by decide +kernel, rfl⟩
theorem e_X2_findRates_7 : DJ cX2_findRates 7 64 10 (.if_icmp .ge) := DJ.mk 57 (by decide +kernel) (by decide) rfl
theorem e_X2_findRates_64 : DC cX2_findRates 64 1 65 (.return_) := ⟨by decide +kernel, rfl⟩
theorem e_X2_runningLeases_0 : DC cX2_runningLeases 0 1 1 (.iconst 0) := ⟨by decide +kernel, rfl⟩
theorem e_X2_runningLeases_1 : DC cX2_runningLeases 1 1 2 (.istore_n 1) := ⟨by decide +kernel, rfl⟩
theorem e_X2_runningLeases_2 : DC cX2_runningLeases 2 1 3 (.iconst 0) := ⟨by decide +kernel, rfl⟩
theorem e_X2_runningLeases_3 : DC cX2_runningLeases 3 1 4 (.istore_n 2) := ⟨by decide +kernel, rfl⟩
theorem e_X2_runningLeases_4 : DC cX2_runningLeases 4 1 5 (.iload_n 2) := ⟨by decide +kernel, rfl⟩
theorem e_X2_runningLeases_5 : DC cX2_runningLeases 5 1 6 (.aload_n 0) := ⟨by decide +kernel, rfl⟩
theorem e_X2_runningLeases_6 : DC cX2_runningLeases 6 3 9 (.getfield 58) := ⟨by decide +kernel, rfl⟩
theorem e_X2_runningLeases_9 : DJ cX2_runningLeases 9 34 12 (.if_icmp .ge) := DJ.mk 25 (by decide +kernel) (by decide) rfl
theorem e_X2_runningLeases_34 : DC cX2_runningLeases 34 1 35 (.iload_n 1) := ⟨by decide +kernel, rfl⟩
theorem e_X2_runningLeases_35 : DC cX2_runningLeases 35 1 36 (.ireturn) := ⟨by decide +kernel, rfl⟩
theorem e_X2_canTake_0 : DC cX2_canTake 0 1 1 (.iload_n 1) := ⟨by decide +kernel, rfl⟩
theorem e_X2_canTake_1 : DJ cX2_canTake 1 35 4 (.ifCond .lt) := DJ.mk 34 (by decide +kernel) (by decide) rfl
theorem e_X2_canTake_35 : DC cX2_canTake 35 1 36 (.iconst 0) := ⟨by decide +kernel, rfl⟩
theorem e_X2_canTake_36 : DC cX2_canTake 36 1 37 (.ireturn) := ⟨by decide +kernel, rfl⟩
theorem e_X2_canTake_4 : DC cX2_canTake 4 1 5 (.iload_n 1) := ⟨by decide +kernel, rfl⟩
theorem e_X2_canTake_5 : DC cX2_canTake 5 1 6 (.aload_n 0) := ⟨by decide +kernel, rfl⟩
theorem e_X2_canTake_6 : DC cX2_canTake 6 3 9 (.getfield 62) := ⟨by decide +kernel, rfl⟩
theorem fl_X2_62 : FL RX2 62 1 9 := ⟨RX2, TX2, 13, rfl, by decide, uw_1, tb_in 241 (by decide +kernel) (by decide +kernel), rfl⟩
theorem e_X2_canTake_9 : DJ cX2_canTake 9 35 12 (.if_icmp .ge) := DJ.mk 26 (by decide +kernel) (by decide) rfl
theorem e_X2_countAllOwed_0 : DC cX2_countAllOwed 0 1 1 (.aload_n 1) := ⟨by decide +kernel, rfl⟩
theorem e_X2_countAllOwed_1 : DC cX2_countAllOwed 1 1 2 (.lconst 0) := ⟨by decide +kernel, rfl⟩
theorem e_X2_countAllOwed_2 : DC cX2_countAllOwed 2 3 5 (.invokevirtual 132) := ⟨by decide +kernel, rfl⟩
theorem e_X2_countAllOwed_5 : DC cX2_countAllOwed 5 1 6 (.iconst 0) := ⟨by decide +kernel, rfl⟩
theorem e_X2_countAllOwed_6 : DC cX2_countAllOwed 6 1 7 (.istore_n 2) := ⟨by decide +kernel, rfl⟩
theorem e_X2_countAllOwed_7 : DC cX2_countAllOwed 7 1 8 (.iload_n 2) := ⟨by decide +kernel, rfl⟩
theorem e_X2_countAllOwed_8 : DC cX2_countAllOwed 8 1 9 (.aload_n 0) := ⟨by decide +kernel, rfl⟩
theorem e_X2_countAllOwed_9 : DC cX2_countAllOwed 9 3 12 (.getfield 58) := ⟨by decide +kernel, rfl⟩
theorem e_X2_countAllOwed_12 : DJ cX2_countAllOwed 12 34 15 (.if_icmp .ge) := DJ.mk 22 (by decide +kernel) (by decide) rfl
theorem e_X2_countAllOwed_34 : DC cX2_countAllOwed 34 1 35 (.return_) := ⟨by decide +kernel, rfl⟩
theorem e_X2_indexNow_0 : DC cX2_indexNow 0 1 1 (.aload_n 0) := ⟨by decide +kernel, rfl⟩
theorem e_X2_indexNow_1 : DC cX2_indexNow 1 3 4 (.getfield 68) := ⟨by decide +kernel, rfl⟩
theorem e_X2_indexNow_4 : DJ cX2_indexNow 4 28 7 (.ifCond .lt) := DJ.mk 24 (by decide +kernel) (by decide) rfl
theorem e_X2_indexNow_7 : DC cX2_indexNow 7 1 8 (.aload_n 0) := ⟨by decide +kernel, rfl⟩
theorem e_X2_indexNow_8 : DC cX2_indexNow 8 3 11 (.getfield 68) := ⟨by decide +kernel, rfl⟩
theorem e_X2_indexNow_11 : DC cX2_indexNow 11 2 13 (.bipush 99) := ⟨by decide +kernel, rfl⟩
theorem e_X2_indexNow_13 : DJ cX2_indexNow 13 28 16 (.if_icmp .gt) := DJ.mk 15 (by decide +kernel) (by decide) rfl
theorem e_X2_indexNow_16 : DC cX2_indexNow 16 1 17 (.aload_n 0) := ⟨by decide +kernel, rfl⟩
theorem e_X2_indexNow_17 : DC cX2_indexNow 17 3 20 (.getfield 23) := ⟨by decide +kernel, rfl⟩
theorem e_X2_indexNow_20 : DC cX2_indexNow 20 1 21 (.aload_n 0) := ⟨by decide +kernel, rfl⟩
theorem e_X2_indexNow_21 : DC cX2_indexNow 21 3 24 (.getfield 68) := ⟨by decide +kernel, rfl⟩
theorem e_X2_indexNow_24 : DC cX2_indexNow 24 1 25 (.iaload) := ⟨by decide +kernel, rfl⟩
theorem e_X2_indexNow_25 : DJ cX2_indexNow 25 31 28 .goto := DJ.mk 6 (by decide +kernel) (by decide) rfl
theorem e_X2_indexNow_31 : DC cX2_indexNow 31 1 32 (.ireturn) := ⟨by decide +kernel, rfl⟩
theorem e_X2_changeIndex_45 : DC cX2_changeIndex 45 1 46 (.iload_n 3) := ⟨by decide +kernel, rfl⟩
theorem e_X2_changeIndex_46 : DC cX2_changeIndex 46 1 47 (.iload_n 2) := ⟨by decide +kernel, rfl⟩
theorem e_X2_changeIndex_47 : DJ cX2_changeIndex 47 69 50 (.if_icmp .ge) := DJ.mk 22 (by decide +kernel) (by decide) rfl
theorem e_X2_changeIndex_69 : DC cX2_changeIndex 69 1 70 (.return_) := ⟨by decide +kernel, rfl⟩
theorem e_X2_changeIndex_50 : DC cX2_changeIndex 50 1 51 (.iload_n 3) := ⟨by decide +kernel, rfl⟩
theorem e_X2_changeIndex_51 : DC cX2_changeIndex 51 2 53 (.bipush 99) := ⟨by decide +kernel, rfl⟩
theorem e_X2_changeIndex_53 : DJ cX2_changeIndex 53 69 56 (.if_icmp .gt) := DJ.mk 16 (by decide +kernel) (by decide) rfl
theorem e_X2_changeIndex_56 : DC cX2_changeIndex 56 1 57 (.aload_n 0) := ⟨by decide +kernel, rfl⟩
theorem e_X2_changeIndex_57 : DC cX2_changeIndex 57 3 60 (.getfield 23) := ⟨by decide +kernel, rfl⟩
theorem e_X2_changeIndex_60 : DC cX2_changeIndex 60 1 61 (.iload_n 3) := ⟨by decide +kernel, rfl⟩
theorem e_X2_changeIndex_61 : DC cX2_changeIndex 61 1 62 (.iload_n 1) := ⟨by decide +kernel, rfl⟩
theorem e_X2_changeIndex_62 : DC cX2_changeIndex 62 1 63 (.iastore) := ⟨by decide +kernel, rfl⟩
theorem e_X2_changeIndex_63 : DC cX2_changeIndex 63 3 66 (.iinc 3 1) := ⟨by decide +kernel, rfl⟩
theorem e_X2_changeIndex_66 : DJ cX2_changeIndex 66 45 69 .goto := DJ.mk (-21) (by decide +kernel) (by decide) rfl
theorem e_X2_changeIndex_0 : DC cX2_changeIndex 0 2 2 (.bipush 100) := ⟨by decide +kernel, rfl⟩
theorem e_X2_changeIndex_2 : DC cX2_changeIndex 2 1 3 (.istore_n 2) := ⟨by decide +kernel, rfl⟩
theorem e_X2_changeIndex_3 : DC cX2_changeIndex 3 1 4 (.aload_n 0) := ⟨by decide +kernel, rfl⟩
theorem e_X2_changeIndex_4 : DC cX2_changeIndex 4 3 7 (.getfield 65) := ⟨by decide +kernel, rfl⟩
theorem fl_X2_65 : FL RX2 65 1 10 := ⟨RX2, TX2, 13, rfl, by decide, uw_1, tb_in 244 (by decide +kernel) (by decide +kernel), rfl⟩
theorem e_X2_changeIndex_7 : DC cX2_changeIndex 7 1 8 (.iconst 1) := ⟨by decide +kernel, rfl⟩
theorem e_X2_changeIndex_8 : DC cX2_changeIndex 8 1 9 (.isub) := ⟨by decide +kernel, rfl⟩
theorem e_X2_changeIndex_9 : DC cX2_changeIndex 9 1 10 (.istore_n 3) := ⟨by decide +kernel, rfl⟩
theorem e_X2_changeIndex_10 : DC cX2_changeIndex 10 1 11 (.iload_n 3) := ⟨by decide +kernel, rfl⟩
theorem e_X2_changeIndex_11 : DJ cX2_changeIndex 11 40 14 (.ifCond .lt) := DJ.mk 29 (by decide +kernel) (by decide) rfl
theorem e_X2_changeIndex_40 : DC cX2_changeIndex 40 1 41 (.aload_n 0) := ⟨by decide +kernel, rfl⟩
theorem e_X2_changeIndex_41 : DC cX2_changeIndex 41 3 44 (.getfield 68) := ⟨by decide +kernel, rfl⟩
theorem e_X2_changeIndex_44 : DC cX2_changeIndex 44 1 45 (.istore_n 3) := ⟨by decide +kernel, rfl⟩
theorem e_X2_copyFrom_0 : DC cX2_copyFrom 0 1 1 (.aload_n 0) := ⟨by decide +kernel, rfl⟩
theorem e_X2_copyFrom_1 : DC cX2_copyFrom 1 1 2 (.aload_n 1) := ⟨by decide +kernel, rfl⟩
theorem e_X2_copyFrom_2 : DC cX2_copyFrom 2 3 5 (.getfield 58) := ⟨by decide +kernel, rfl⟩
theorem e_X2_copyFrom_5 : DC cX2_copyFrom 5 3 8 (.putfield 58) := ⟨by decide +kernel, rfl⟩
theorem fp_X2_58 : FP RX2 58 1 8 false .int := ⟨RX2, TX2, 13, tyX2, rfl, by decide, uw_1, tb_in 238 (by decide +kernel) (by decide +kernel), rfl, rfl, by decide +kernel, tyX2_ok, nmX2⟩
theorem e_X2_copyFrom_8 : DC cX2_copyFrom 8 1 9 (.aload_n 0) := ⟨by decide +kernel, rfl⟩
theorem e_X2_copyFrom_9 : DC cX2_copyFrom 9 1 10 (.aload_n 1) := ⟨by decide +kernel, rfl⟩
theorem e_X2_copyFrom_10 : DC cX2_copyFrom 10 3 13 (.getfield 62) := ⟨by decide +kernel, rfl⟩
theorem e_X2_copyFrom_13 : DC cX2_copyFrom 13 3 16 (.putfield 62) := ⟨by decide +kernel, rfl⟩
theorem fp_X2_62 : FP RX2 62 1 9 false .int := ⟨RX2, TX2, 13, tyX2, rfl, by decide, uw_1, tb_in 241 (by decide +kernel) (by decide +kernel), rfl, rfl, by decide +kernel, tyX2_ok, nmX2⟩
theorem e_X2_copyFrom_16 : DC cX2_copyFrom 16 1 17 (.aload_n 0) := ⟨by decide +kernel, rfl⟩
theorem e_X2_copyFrom_17 : DC cX2_copyFrom 17 1 18 (.aload_n 1) := ⟨by decide +kernel, rfl⟩
theorem e_X2_copyFrom_18 : DC cX2_copyFrom 18 3 21 (.getfield 65) := ⟨by decide +kernel, rfl⟩
theorem e_X2_copyFrom_21 : DC cX2_copyFrom 21 3 24 (.putfield 65) := ⟨by decide +kernel, rfl⟩
theorem fp_X2_65 : FP RX2 65 1 10 false .int := ⟨RX2, TX2, 13, tyX2, rfl, by decide, uw_1, tb_in 244 (by decide +kernel) (by decide +kernel), rfl, rfl, by decide +kernel, tyX2_ok, nmX2⟩
theorem e_X2_copyFrom_24 : DC cX2_copyFrom 24 1 25 (.aload_n 0) := ⟨by decide +kernel, rfl⟩
theorem e_X2_copyFrom_25 : DC cX2_copyFrom 25 1 26 (.aload_n 1) := ⟨by decide +kernel, rfl⟩
theorem e_X2_copyFrom_26 : DC cX2_copyFrom 26 3 29 (.getfield 68) := ⟨by decide +kernel, rfl⟩
theorem e_X2_copyFrom_29 : DC cX2_copyFrom 29 3 32 (.putfield 68) := ⟨by decide +kernel, rfl⟩
theorem e_X2_copyFrom_32 : DC cX2_copyFrom 32 1 33 (.aload_n 0) := ⟨by decide +kernel, rfl⟩
theorem e_X2_copyFrom_33 : DC cX2_copyFrom 33 1 34 (.aload_n 1) := ⟨by decide +kernel, rfl⟩
theorem e_X2_copyFrom_34 : DC cX2_copyFrom 34 3 37 (.getfield 71) := ⟨by decide +kernel, rfl⟩
theorem fl_X2_71 : FL RX2 71 1 12 := ⟨RX2, TX2, 13, rfl, by decide, uw_1, tb_in 248 (by decide +kernel) (by decide +kernel), rfl⟩
theorem e_X2_copyFrom_37 : DC cX2_copyFrom 37 3 40 (.putfield 71) := ⟨by decide +kernel, rfl⟩
theorem fp_X2_71 : FP RX2 71 1 12 false .int := ⟨RX2, TX2, 13, tyX2, rfl, by decide, uw_1, tb_in 248 (by decide +kernel) (by decide +kernel), rfl, rfl, by decide +kernel, tyX2_ok, nmX2⟩
theorem e_X2_copyFrom_40 : DC cX2_copyFrom 40 1 41 (.aload_n 1) := ⟨by decide +kernel, rfl⟩
theorem e_X2_copyFrom_41 : DC cX2_copyFrom 41 3 44 (.getfield 23) := ⟨by decide +kernel, rfl⟩
theorem e_X2_copyFrom_44 : DC cX2_copyFrom 44 1 45 (.iconst 0) := ⟨by decide +kernel, rfl⟩
theorem e_X2_copyFrom_45 : DC cX2_copyFrom 45 1 46 (.aload_n 0) := ⟨by decide +kernel, rfl⟩
theorem e_X2_copyFrom_46 : DC cX2_copyFrom 46 3 49 (.getfield 23) := ⟨by decide +kernel, rfl⟩
theorem e_X2_copyFrom_49 : DC cX2_copyFrom 49 1 50 (.iconst 0) := ⟨by decide +kernel, rfl⟩
theorem e_X2_copyFrom_50 : DC cX2_copyFrom 50 2 52 (.bipush 100) := ⟨by decide +kernel, rfl⟩
theorem e_X2_copyFrom_52 : DC cX2_copyFrom 52 3 55 (.invokestatic 77) := ⟨by decide +kernel, rfl⟩
theorem ac_X2_77 : AC RX2 77 := ⟨tb_in 945 (by decide +kernel) (by decide +kernel), tb_in 620 (by decide +kernel) (by decide +kernel), tb_in 619 (by decide +kernel) (by decide +kernel), tb_in 23 (by decide +kernel) (by decide +kernel)⟩
theorem e_X2_copyFrom_55 : DC cX2_copyFrom 55 1 56 (.aload_n 1) := ⟨by decide +kernel, rfl⟩
theorem e_X2_copyFrom_56 : DC cX2_copyFrom 56 3 59 (.getfield 27) := ⟨by decide +kernel, rfl⟩
theorem fl_X2_27 : FL RX2 27 1 3 := ⟨RX2, TX2, 13, rfl, by decide, uw_1, tb_in 231 (by decide +kernel) (by decide +kernel), rfl⟩
theorem e_X2_copyFrom_59 : DC cX2_copyFrom 59 1 60 (.iconst 0) := ⟨by decide +kernel, rfl⟩
theorem e_X2_copyFrom_60 : DC cX2_copyFrom 60 1 61 (.aload_n 0) := ⟨by decide +kernel, rfl⟩
theorem e_X2_copyFrom_61 : DC cX2_copyFrom 61 3 64 (.getfield 27) := ⟨by decide +kernel, rfl⟩
theorem e_X2_copyFrom_64 : DC cX2_copyFrom 64 1 65 (.iconst 0) := ⟨by decide +kernel, rfl⟩
theorem e_X2_copyFrom_65 : DC cX2_copyFrom 65 2 67 (.bipush 8) := ⟨by decide +kernel, rfl⟩
theorem e_X2_copyFrom_67 : DC cX2_copyFrom 67 3 70 (.invokestatic 77) := ⟨by decide +kernel, rfl⟩
theorem e_X2_copyFrom_70 : DC cX2_copyFrom 70 1 71 (.aload_n 0) := ⟨by decide +kernel, rfl⟩
theorem e_X2_copyFrom_71 : DC cX2_copyFrom 71 3 74 (.getfield 33) := ⟨by decide +kernel, rfl⟩
theorem fl_X2_33 : FL RX2 33 1 4 := ⟨RX2, TX2, 13, rfl, by decide, uw_1, tb_in 232 (by decide +kernel) (by decide +kernel), rfl⟩
theorem e_X2_copyFrom_74 : DC cX2_copyFrom 74 1 75 (.aload_n 1) := ⟨by decide +kernel, rfl⟩
theorem e_X2_copyFrom_75 : DC cX2_copyFrom 75 3 78 (.getfield 33) := ⟨by decide +kernel, rfl⟩
theorem e_X2_copyFrom_78 : DC cX2_copyFrom 78 3 81 (.invokevirtual 83) := ⟨by decide +kernel, rfl⟩
theorem cb_X3_copyFrom : CB yX3_copyFrom cX3_copyFrom 2 none 1 := ⟨tb_in 949 (by decide +kernel) (by decide +kernel), tb_in 3 (by decide +kernel) (by decide +kernel), by decide +kernel⟩
theorem ml_X2_83 : Cond.methodLink RX2 83 yX3_copyFrom ∈ tb := tb_in 946 (by decide +kernel) (by decide +kernel)
theorem im_X3_copyFrom : Cond.instanceMethod yX3_copyFrom ∈ tb := tb_in 947 (by decide +kernel) (by decide +kernel)
theorem se_X3_copyFrom : Cond.selects (yX3_copyFrom).cls yX3_copyFrom yX3_copyFrom ∈ tb := tb_in 948 (by decide +kernel) (by decide +kernel)
theorem e_X2_copyFrom_81 : DC cX2_copyFrom 81 1 82 (.iconst 0) := ⟨by decide +kernel, rfl⟩
theorem e_X2_copyFrom_82 : DC cX2_copyFrom 82 1 83 (.istore_n 2) := ⟨by decide +kernel, rfl⟩
theorem e_X2_copyFrom_83 : DC cX2_copyFrom 83 1 84 (.iload_n 2) := ⟨by decide +kernel, rfl⟩
theorem e_X2_copyFrom_84 : DC cX2_copyFrom 84 1 85 (.aload_n 0) := ⟨by decide +kernel, rfl⟩
theorem e_X2_copyFrom_85 : DC cX2_copyFrom 85 3 88 (.getfield 58) := ⟨by decide +kernel, rfl⟩
theorem e_X2_copyFrom_88 : DJ cX2_copyFrom 88 112 91 (.if_icmp .ge) := DJ.mk 24 (by decide +kernel) (by decide) rfl
theorem e_X2_copyFrom_112 : DC cX2_copyFrom 112 1 113 (.iconst 0) := ⟨by decide +kernel, rfl⟩
theorem e_X2_copyFrom_113 : DC cX2_copyFrom 113 1 114 (.istore_n 2) := ⟨by decide +kernel, rfl⟩
theorem e_X2_copyFrom_114 : DC cX2_copyFrom 114 1 115 (.iload_n 2) := ⟨by decide +kernel, rfl⟩
theorem e_X2_copyFrom_115 : DC cX2_copyFrom 115 1 116 (.aload_n 0) := ⟨by decide +kernel, rfl⟩
theorem e_X2_copyFrom_116 : DC cX2_copyFrom 116 3 119 (.getfield 62) := ⟨by decide +kernel, rfl⟩
theorem e_X2_copyFrom_119 : DJ cX2_copyFrom 119 143 122 (.if_icmp .ge) := DJ.mk 24 (by decide +kernel) (by decide) rfl
theorem e_X2_copyFrom_143 : DC cX2_copyFrom 143 1 144 (.return_) := ⟨by decide +kernel, rfl⟩
theorem e_X2_yearByChance_5 : DC cX2_yearByChance 5 2 7 (.iload 5) := ⟨by decide +kernel, rfl⟩
theorem e_X2_yearByChance_7 : DC cX2_yearByChance 7 2 9 (.bipush 12) := ⟨by decide +kernel, rfl⟩
theorem e_X2_yearByChance_9 : DJ cX2_yearByChance 9 74 12 (.if_icmp .ge) := DJ.mk 65 (by decide +kernel) (by decide) rfl
theorem e_X2_yearByChance_74 : DC cX2_yearByChance 74 1 75 (.lload_n 3) := ⟨by decide +kernel, rfl⟩
theorem e_X2_yearByChance_75 : DC cX2_yearByChance 75 1 76 (.lreturn) := ⟨by decide +kernel, rfl⟩
theorem e_X2_yearByChance_12 : DC cX2_yearByChance 12 1 13 (.lload_n 3) := ⟨by decide +kernel, rfl⟩
theorem e_X2_yearByChance_13 : DC cX2_yearByChance 13 3 16 (.ldc2_w 251) := ⟨by decide +kernel, rfl⟩
theorem kc_X2_251 : Cond.constantLong RX2 251 1103515245 ∈ tb := tb_in 1343 (by decide +kernel) (by decide +kernel)
theorem e_X2_yearByChance_16 : DC cX2_yearByChance 16 1 17 (.lmul) := ⟨by decide +kernel, rfl⟩
theorem e_X2_yearByChance_17 : DC cX2_yearByChance 17 3 20 (.ldc2_w 253) := ⟨by decide +kernel, rfl⟩
theorem kc_X2_253 : Cond.constantLong RX2 253 12345 ∈ tb := tb_in 1344 (by decide +kernel) (by decide +kernel)
theorem e_X2_yearByChance_20 : DC cX2_yearByChance 20 1 21 (.ladd) := ⟨by decide +kernel, rfl⟩
theorem e_X2_yearByChance_21 : DC cX2_yearByChance 21 3 24 (.ldc2_w 255) := ⟨by decide +kernel, rfl⟩
theorem kc_X2_255 : Cond.constantLong RX2 255 2147483647 ∈ tb := tb_in 1345 (by decide +kernel) (by decide +kernel)
theorem e_X2_yearByChance_24 : DC cX2_yearByChance 24 1 25 (.land) := ⟨by decide +kernel, rfl⟩
theorem e_X2_yearByChance_25 : DC cX2_yearByChance 25 1 26 (.lstore_n 3) := ⟨by decide +kernel, rfl⟩
theorem e_X2_yearByChance_26 : DC cX2_yearByChance 26 1 27 (.lload_n 3) := ⟨by decide +kernel, rfl⟩
theorem e_X2_yearByChance_27 : DC cX2_yearByChance 27 3 30 (.ldc2_w 257) := ⟨by decide +kernel, rfl⟩
theorem kc_X2_257 : Cond.constantLong RX2 257 65536 ∈ tb := tb_in 1346 (by decide +kernel) (by decide +kernel)
theorem e_X2_yearByChance_30 : DC cX2_yearByChance 30 1 31 (.ldiv) := ⟨by decide +kernel, rfl⟩
theorem e_X2_yearByChance_31 : DC cX2_yearByChance 31 3 34 (.ldc2_w 259) := ⟨by decide +kernel, rfl⟩
theorem kc_X2_259 : Cond.constantLong RX2 259 21 ∈ tb := tb_in 1347 (by decide +kernel) (by decide +kernel)
theorem e_X2_yearByChance_34 : DC cX2_yearByChance 34 1 35 (.lrem) := ⟨by decide +kernel, rfl⟩
theorem e_X2_yearByChance_35 : DC cX2_yearByChance 35 1 36 (.l2i) := ⟨by decide +kernel, rfl⟩
theorem e_X2_yearByChance_36 : DC cX2_yearByChance 36 2 38 (.bipush 10) := ⟨by decide +kernel, rfl⟩
theorem e_X2_yearByChance_38 : DC cX2_yearByChance 38 1 39 (.isub) := ⟨by decide +kernel, rfl⟩
theorem e_X2_yearByChance_39 : DC cX2_yearByChance 39 2 41 (.istore 6) := ⟨by decide +kernel, rfl⟩
theorem e_X2_yearByChance_41 : DC cX2_yearByChance 41 1 42 (.aload_n 0) := ⟨by decide +kernel, rfl⟩
theorem e_X2_yearByChance_42 : DC cX2_yearByChance 42 3 45 (.sipush 500) := ⟨by decide +kernel, rfl⟩
theorem e_X2_yearByChance_45 : DC cX2_yearByChance 45 3 48 (.sipush 2000) := ⟨by decide +kernel, rfl⟩
theorem e_X2_yearByChance_48 : DC cX2_yearByChance 48 1 49 (.aload_n 0) := ⟨by decide +kernel, rfl⟩
theorem e_X2_yearByChance_49 : DC cX2_yearByChance 49 3 52 (.invokevirtual 153) := ⟨by decide +kernel, rfl⟩
theorem cb_X2_indexNow : CB yX2_indexNow cX2_indexNow 1 (some .int) 0 := ⟨tb_in 981 (by decide +kernel) (by decide +kernel), tb_in 2 (by decide +kernel) (by decide +kernel), by decide +kernel⟩
theorem ml_X2_153 : Cond.methodLink RX2 153 yX2_indexNow ∈ tb := tb_in 978 (by decide +kernel) (by decide +kernel)
theorem im_X2_indexNow : Cond.instanceMethod yX2_indexNow ∈ tb := tb_in 979 (by decide +kernel) (by decide +kernel)
theorem se_X2_indexNow : Cond.selects (yX2_indexNow).cls yX2_indexNow yX2_indexNow ∈ tb := tb_in 980 (by decide +kernel) (by decide +kernel)
theorem e_X2_yearByChance_52 : DC cX2_yearByChance 52 2 54 (.iload 6) := ⟨by decide +kernel, rfl⟩
theorem e_X2_yearByChance_54 : DC cX2_yearByChance 54 1 55 (.iadd) := ⟨by decide +kernel, rfl⟩
theorem e_X2_yearByChance_55 : DC cX2_yearByChance 55 3 58 (.invokestatic 261) := ⟨by decide +kernel, rfl⟩
theorem ml_X2_261 : Cond.methodLink RX2 261 Lib.Math.min.name ∈ tb := tb_in 1348 (by decide +kernel) (by decide +kernel)
theorem e_X2_yearByChance_58 : DC cX2_yearByChance 58 3 61 (.invokestatic 267) := ⟨by decide +kernel, rfl⟩
theorem ml_X2_267 : Cond.methodLink RX2 267 Lib.Math.max.name ∈ tb := tb_in 1349 (by decide +kernel) (by decide +kernel)
theorem sm_max : Cond.static Lib.Math.max.name ∈ tb := tb_in 492 (by decide +kernel) (by decide +kernel)
theorem co_max : Cond.code Lib.Math.max.name Lib.Math.max.code 2 (some .int) ∈ tb := tb_in 493 (by decide +kernel) (by decide +kernel)
theorem e_X2_yearByChance_61 : DC cX2_yearByChance 61 3 64 (.invokevirtual 270) := ⟨by decide +kernel, rfl⟩
theorem cb_X2_changeIndex : CB yX2_changeIndex cX2_changeIndex 4 none 1 := ⟨tb_in 1192 (by decide +kernel) (by decide +kernel), tb_in 2 (by decide +kernel) (by decide +kernel), by decide +kernel⟩
theorem ml_X2_270 : Cond.methodLink RX2 270 yX2_changeIndex ∈ tb := tb_in 1350 (by decide +kernel) (by decide +kernel)
theorem im_X2_changeIndex : Cond.instanceMethod yX2_changeIndex ∈ tb := tb_in 1190 (by decide +kernel) (by decide +kernel)
theorem se_X2_changeIndex : Cond.selects (yX2_changeIndex).cls yX2_changeIndex yX2_changeIndex ∈ tb := tb_in 1191 (by decide +kernel) (by decide +kernel)
theorem e_X2_yearByChance_64 : DC cX2_yearByChance 64 1 65 (.aload_n 0) := ⟨by decide +kernel, rfl⟩
theorem e_X2_yearByChance_65 : DC cX2_yearByChance 65 3 68 (.invokevirtual 273) := ⟨by decide +kernel, rfl⟩
theorem cb_X2_periodGoesBy : CB yX2_periodGoesBy cX2_periodGoesBy 3 none 0 := ⟨tb_in 972 (by decide +kernel) (by decide +kernel), tb_in 2 (by decide +kernel) (by decide +kernel), by decide +kernel⟩
theorem ml_X2_273 : Cond.methodLink RX2 273 yX2_periodGoesBy ∈ tb := tb_in 1351 (by decide +kernel) (by decide +kernel)
theorem im_X2_periodGoesBy : Cond.instanceMethod yX2_periodGoesBy ∈ tb := tb_in 970 (by decide +kernel) (by decide +kernel)
theorem se_X2_periodGoesBy : Cond.selects (yX2_periodGoesBy).cls yX2_periodGoesBy yX2_periodGoesBy ∈ tb := tb_in 971 (by decide +kernel) (by decide +kernel)
theorem e_X2_yearByChance_68 : DC cX2_yearByChance 68 3 71 (.iinc 5 1) := ⟨by decide +kernel, rfl⟩
theorem e_X2_yearByChance_71 : DJ cX2_yearByChance 71 5 74 .goto := DJ.mk (-66) (by decide +kernel) (by decide) rfl
theorem e_X2_yearByChance_0 : DC cX2_yearByChance 0 1 1 (.lload_n 1) := ⟨by decide +kernel, rfl⟩
theorem e_X2_yearByChance_1 : DC cX2_yearByChance 1 1 2 (.lstore_n 3) := ⟨by decide +kernel, rfl⟩
theorem e_X2_yearByChance_2 : DC cX2_yearByChance 2 1 3 (.iconst 0) := ⟨by decide +kernel, rfl⟩
theorem e_X2_yearByChance_3 : DC cX2_yearByChance 3 2 5 (.istore 5) := ⟨by decide +kernel, rfl⟩
set_option maxRecDepth 20000 in
theorem k_set0 (l : Launch) (V : VX) (N : Nat) (σ : Mem) (a : Nat) (x y : Int64) (h_a : σ a = some (ob 0 [.long x, .long y])) : Ct l V yX1_set cX1_set 3 none 0 0 0 N σ [.ref a, .long 0] (fun r τ => r = none ∧ τ = va_up σ a (some (ob 0 [.long 0, .long 0]))) := by
  refine Ct.of (by decide) (Nat.le_of_ble_eq_true rfl) [(0, .ref a), (1, .long 0)] rfl (fun X hX F hQ => ?_)
  refine m_aload_n F rfl e_X1_set_0 ?_
  refine m_lload_n F rfl e_X1_set_1 ?_
  refine m_bipush F (v := 42) (by decide) e_X1_set_2 ?_
  refine m_lshr F e_X1_set_4 ?_
  refine Wm.toplE (w := 0) (by decide) ?_
  refine m_put F e_X1_set_5 fp_X1_9 h_a rfl rfl (Nat.le_of_ble_eq_true rfl) (fs' := [.long 0, .long y]) rfl rfl ?_
  refine m_aload_n F rfl e_X1_set_8 ?_
  refine m_lload_n F rfl e_X1_set_9 ?_
  refine m_ldc2 F kc_X1_13 e_X1_set_10 ?_
  refine m_land F e_X1_set_13 ?_
  refine Wm.toplE (w := 0) (by decide) ?_
  refine m_put F e_X1_set_14 fp_X1_15 ru_eq rfl rfl (Nat.le_of_ble_eq_true rfl) (fs' := [.long 0, .long 0]) rfl (bx_uu _ _ _ _) ?_
  exact m_vret F hQ e_X1_set_17 (⟨rfl, rfl⟩)
set_option maxRecDepth 20000 in
theorem k_asLong0 (l : Launch) (V : VX) (N : Nat) (σ : Mem) (a : Nat) (h_a : σ a = some (ob 0 [.long 0, .long 0])) : Ct l V yX1_asLong cX1_asLong 1 (some .long) 0 0 0 N σ [.ref a] (fun r τ => r = some (.long 0) ∧ τ = σ) := by
  refine Ct.of (by decide) (Nat.le_of_ble_eq_true rfl) [(0, .ref a)] rfl (fun X hX F hQ => ?_)
  refine m_aload_n F rfl e_X1_asLong_0 ?_
  refine m_get F e_X1_asLong_1 fl_X1_9 h_a rfl ?_
  refine m_bipush F (v := 42) (by decide) e_X1_asLong_4 ?_
  refine m_lshl F e_X1_asLong_6 ?_
  refine Wm.toplE (w := 0) (by decide) ?_
  refine m_aload_n F rfl e_X1_asLong_7 ?_
  refine m_get F e_X1_asLong_8 fl_X1_15 h_a rfl ?_
  refine m_ladd F e_X1_asLong_11 ?_
  refine Wm.toplE (w := 0) (by decide) ?_
  exact m_lret F hQ e_X1_asLong_12 (⟨rfl, rfl⟩)
set_option maxRecDepth 20000 in
theorem k_isZero0 (l : Launch) (V : VX) (N : Nat) (σ : Mem) (a : Nat) (h_a : σ a = some (ob 0 [.long 0, .long 0])) : Ct l V yX1_isZero cX1_isZero 1 (some .boolean) 0 0 0 N σ [.ref a] (fun r τ => r = some (.int 1) ∧ τ = σ) := by
  refine Ct.of (by decide) (Nat.le_of_ble_eq_true rfl) [(0, .ref a)] rfl (fun X hX F hQ => ?_)
  refine m_aload_n F rfl e_X1_isZero_0 ?_
  refine m_get F e_X1_isZero_1 fl_X1_9 h_a rfl ?_
  refine m_lconst F (v := 0) (by decide) e_X1_isZero_4 ?_
  refine m_lcmp F e_X1_isZero_5 ?_
  refine Wm.topE (w := 0) (by decide) ?_
  refine m_if_ne F e_X1_isZero_6 (fun q => absurd (by decide) q) (fun _ => ?_)
  refine m_aload_n F rfl e_X1_isZero_9 ?_
  refine m_get F e_X1_isZero_10 fl_X1_15 h_a rfl ?_
  refine m_lconst F (v := 0) (by decide) e_X1_isZero_13 ?_
  refine m_lcmp F e_X1_isZero_14 ?_
  refine Wm.topE (w := 0) (by decide) ?_
  refine m_if_ne F e_X1_isZero_15 (fun q => absurd (by decide) q) (fun _ => ?_)
  refine m_iconst F (v := 1) (by decide) e_X1_isZero_18 ?_
  refine m_goto F e_X1_isZero_19 ?_
  exact m_zret F hQ e_X1_isZero_23 (by decide) (⟨rfl, rfl⟩)
set_option maxRecDepth 20000 in
theorem k_isGS0 (l : Launch) (V : VX) (N : Nat) (σ : Mem) (a c : Nat) (h_a : σ a = some (ob 0 [.long 0, .long 0])) (h_c : σ c = some (ob 0 [.long 0, .long 0])) : Ct l V yX1_isGreaterShare cX1_isGreaterShare 12 (some .boolean) 0 0 0 N σ [.ref a, .int 1, .ref c, .int 1] (fun r τ => r = some (.int 0) ∧ τ = σ) := by
  refine Ct.of (by decide) (Nat.le_of_ble_eq_true rfl) [(0, .ref a), (1, .int 1), (2, .ref c), (3, .int 1)] rfl (fun X hX F hQ => ?_)
  refine m_aload_n F rfl e_X1_isGreaterShare_0 ?_
  refine m_get F e_X1_isGreaterShare_1 fl_X1_15 h_a rfl ?_
  refine m_iload_n F rfl e_X1_isGreaterShare_4 ?_
  refine m_i2l F e_X1_isGreaterShare_5 ?_
  refine Wm.toplE (w := 1) (by decide) ?_
  refine m_lmul F e_X1_isGreaterShare_6 ?_
  refine Wm.toplE (w := 0) (by decide) ?_
  refine m_lstore F (lv' := [(4, .long 0), (0, .ref a), (1, .int 1), (2, .ref c), (3, .int 1)]) e_X1_isGreaterShare_7 (by decide) rfl ?_
  refine m_aload_n F rfl e_X1_isGreaterShare_9 ?_
  refine m_get F e_X1_isGreaterShare_10 fl_X1_9 h_a rfl ?_
  refine m_iload_n F rfl e_X1_isGreaterShare_13 ?_
  refine m_i2l F e_X1_isGreaterShare_14 ?_
  refine Wm.toplE (w := 1) (by decide) ?_
  refine m_lmul F e_X1_isGreaterShare_15 ?_
  refine Wm.toplE (w := 0) (by decide) ?_
  refine m_lload F rfl e_X1_isGreaterShare_16 ?_
  refine m_bipush F (v := 42) (by decide) e_X1_isGreaterShare_18 ?_
  refine m_lshr F e_X1_isGreaterShare_20 ?_
  refine Wm.toplE (w := 0) (by decide) ?_
  refine m_ladd F e_X1_isGreaterShare_21 ?_
  refine Wm.toplE (w := 0) (by decide) ?_
  refine m_lstore F (lv' := [(6, .long 0), (4, .long 0), (0, .ref a), (1, .int 1), (2, .ref c), (3, .int 1)]) e_X1_isGreaterShare_22 (by decide) rfl ?_
  refine m_aload_n F rfl e_X1_isGreaterShare_24 ?_
  refine m_get F e_X1_isGreaterShare_25 fl_X1_15 h_c rfl ?_
  refine m_iload_n F rfl e_X1_isGreaterShare_28 ?_
  refine m_i2l F e_X1_isGreaterShare_29 ?_
  refine Wm.toplE (w := 1) (by decide) ?_
  refine m_lmul F e_X1_isGreaterShare_30 ?_
  refine Wm.toplE (w := 0) (by decide) ?_
  refine m_lstore F (lv' := [(8, .long 0), (6, .long 0), (4, .long 0), (0, .ref a), (1, .int 1), (2, .ref c), (3, .int 1)]) e_X1_isGreaterShare_31 (by decide) rfl ?_
  refine m_aload_n F rfl e_X1_isGreaterShare_33 ?_
  refine m_get F e_X1_isGreaterShare_34 fl_X1_9 h_c rfl ?_
  refine m_iload_n F rfl e_X1_isGreaterShare_37 ?_
  refine m_i2l F e_X1_isGreaterShare_38 ?_
  refine Wm.toplE (w := 1) (by decide) ?_
  refine m_lmul F e_X1_isGreaterShare_39 ?_
  refine Wm.toplE (w := 0) (by decide) ?_
  refine m_lload F rfl e_X1_isGreaterShare_40 ?_
  refine m_bipush F (v := 42) (by decide) e_X1_isGreaterShare_42 ?_
  refine m_lshr F e_X1_isGreaterShare_44 ?_
  refine Wm.toplE (w := 0) (by decide) ?_
  refine m_ladd F e_X1_isGreaterShare_45 ?_
  refine Wm.toplE (w := 0) (by decide) ?_
  refine m_lstore F (lv' := [(10, .long 0), (8, .long 0), (6, .long 0), (4, .long 0), (0, .ref a), (1, .int 1), (2, .ref c), (3, .int 1)]) e_X1_isGreaterShare_46 (by decide) rfl ?_
  refine m_lload F rfl e_X1_isGreaterShare_48 ?_
  refine m_lload F rfl e_X1_isGreaterShare_50 ?_
  refine m_lcmp F e_X1_isGreaterShare_52 ?_
  refine Wm.topE (w := 0) (by decide) ?_
  refine m_if_gt F e_X1_isGreaterShare_53 (fun q => absurd q (by decide)) (fun _ => ?_)
  refine m_lload F rfl e_X1_isGreaterShare_56 ?_
  refine m_lload F rfl e_X1_isGreaterShare_58 ?_
  refine m_lcmp F e_X1_isGreaterShare_60 ?_
  refine Wm.topE (w := 0) (by decide) ?_
  refine m_if_ne F e_X1_isGreaterShare_61 (fun q => absurd (by decide) q) (fun _ => ?_)
  refine m_lload F rfl e_X1_isGreaterShare_64 ?_
  refine m_ldc2 F kc_X1_13 e_X1_isGreaterShare_66 ?_
  refine m_land F e_X1_isGreaterShare_69 ?_
  refine Wm.toplE (w := 0) (by decide) ?_
  refine m_lload F rfl e_X1_isGreaterShare_70 ?_
  refine m_ldc2 F kc_X1_13 e_X1_isGreaterShare_72 ?_
  refine m_land F e_X1_isGreaterShare_75 ?_
  refine Wm.toplE (w := 0) (by decide) ?_
  refine m_lcmp F e_X1_isGreaterShare_76 ?_
  refine Wm.topE (w := 0) (by decide) ?_
  refine m_if_le F e_X1_isGreaterShare_77 (fun _ => ?_) (fun q => absurd (by decide) q)
  refine m_iconst F (v := 0) (by decide) e_X1_isGreaterShare_84 ?_
  exact m_zret F hQ e_X1_isGreaterShare_85 (by decide) (⟨rfl, rfl⟩)
set_option maxRecDepth 20000 in
theorem k_isAbove0 (l : Launch) (V : VX) (N : Nat) (σ : Mem) (a c : Nat) (h_a : σ a = some (ob 0 [.long 0, .long 0])) (h_c : σ c = some (ob 0 [.long 0, .long 0])) : Ct l V yX1_isAbove cX1_isAbove 2 (some .boolean) 1 0 0 N σ [.ref a, .ref c] (fun r τ => r = some (.int 0) ∧ τ = σ) := by
  refine Ct.of (by decide) (Nat.le_of_ble_eq_true rfl) [(0, .ref a), (1, .ref c)] rfl (fun X hX F hQ => ?_)
  refine m_aload_n F rfl e_X1_isAbove_0 ?_
  refine m_iconst F (v := 1) (by decide) e_X1_isAbove_1 ?_
  refine m_aload_n F rfl e_X1_isAbove_2 ?_
  refine m_iconst F (v := 1) (by decide) e_X1_isAbove_3 ?_
  refine m_callV F e_X1_isAbove_4 (k_isGS0 (x_l X) V _ _ a c h_a h_c) cb_X1_isGreaterShare ml_X1_18 im_X1_isGreaterShare se_X1_isGreaterShare h_a rfl rfl (rest := []) rfl (Nat.le_of_ble_eq_true rfl) ⟨Nat.le_of_ble_eq_true rfl, Nat.le_of_ble_eq_true rfl⟩ ⟨Nat.le_of_ble_eq_true rfl, Nat.le_of_ble_eq_true rfl⟩ (k' := 0) (z' := 0) (N' := N) rfl rfl rfl (fun r τ hp => ?_)
  obtain ⟨rfl, rfl⟩ := hp
  exact m_zret F hQ e_X1_isAbove_7 (by decide) (⟨rfl, rfl⟩)
set_option maxRecDepth 20000 in
theorem k_Acopy0 (l : Launch) (V : VX) (N : Nat) (σ : Mem) (a c : Nat) (h_a : σ a = some (ob 0 [.long 0, .long 0])) (h_c : σ c = some (ob 0 [.long 0, .long 0])) : Ct l V yX1_copyFrom cX1_copyFrom 2 none 0 0 0 N σ [.ref a, .ref c] (fun r τ => r = none ∧ τ = σ) := by
  refine Ct.of (by decide) (Nat.le_of_ble_eq_true rfl) [(0, .ref a), (1, .ref c)] rfl (fun X hX F hQ => ?_)
  refine m_aload_n F rfl e_X1_copyFrom_0 ?_
  refine m_aload_n F rfl e_X1_copyFrom_1 ?_
  refine m_get F e_X1_copyFrom_2 fl_X1_9 h_c rfl ?_
  refine m_put F e_X1_copyFrom_5 fp_X1_9 h_a rfl rfl (Nat.le_of_ble_eq_true rfl) (fs' := [.long 0, .long 0]) rfl (up_self h_a).symm ?_
  refine m_aload_n F rfl e_X1_copyFrom_8 ?_
  refine m_aload_n F rfl e_X1_copyFrom_9 ?_
  refine m_get F e_X1_copyFrom_10 fl_X1_15 h_c rfl ?_
  refine m_put F e_X1_copyFrom_13 fp_X1_15 h_a rfl rfl (Nat.le_of_ble_eq_true rfl) (fs' := [.long 0, .long 0]) rfl (up_self h_a).symm ?_
  exact m_vret F hQ e_X1_copyFrom_16 (⟨rfl, rfl⟩)
set_option maxRecDepth 20000 in
theorem k_kept0 (l : Launch) (V : VX) (N : Nat) (σ : Mem) (a : Nat) (h_a : σ a = some (ob 2 [.ref (a + 1), .ref (a + 2), .int 0])) : Ct l V yX3_kept cX3_kept 1 (some .int) 1 0 0 N σ [.ref a] (fun r τ => r = some (.int 0) ∧ τ = σ) := by
  refine Ct.of (by decide) (Nat.le_of_ble_eq_true rfl) [(0, .ref a)] rfl (fun X hX F hQ => ?_)
  refine m_aload_n F rfl e_X3_kept_0 ?_
  refine m_get F e_X3_kept_1 fl_X3_18 h_a rfl ?_
  refine m_bipush F (v := 40) (by decide) e_X3_kept_4 ?_
  refine m_min F e_X3_kept_6 ml_X3_34 sm_min ini_math co_min (Nat.le_of_ble_eq_true rfl) (Nat.le_of_ble_eq_true rfl) (Nat.le_of_ble_eq_true rfl) (Nat.le_of_ble_eq_true rfl) ?_
  refine Wm.topE (w := 0) (by decide) ?_
  exact m_iret F hQ e_X3_kept_9 (⟨rfl, rfl⟩)
set_option maxRecDepth 20000 in
theorem k_Jcopy (l : Launch) (V : VX) (N : Nat) (σ : Mem) (a c : Nat) (ta tc : Int32) (ra ca rc cc : Nat → Int64) (hac : a + 2 < c ∨ c + 2 < a) (h_a : σ a = some (ob 2 [.ref (a + 1), .ref (a + 2), .int ta])) (h_a1 : σ (a + 1) = some (aJ V 360 ra)) (h_a2 : σ (a + 2) = some (aJ V 6 ca)) (h_c : σ c = some (ob 2 [.ref (c + 1), .ref (c + 2), .int tc])) (h_c1 : σ (c + 1) = some (aJ V 360 rc)) (h_c2 : σ (c + 2) = some (aJ V 6 cc)) : Ct l V yX3_copyFrom cX3_copyFrom 2 none 1 0 0 N σ [.ref a, .ref c] (fun r τ => r = none ∧ τ = (va_up (va_up (va_up σ a (some (ob 2 [.ref (a + 1), .ref (a + 2), .int tc]))) (a + 1) (some (aJ V 360 (va_cpy rc ra 0 0 360)))) (a + 2) (some (aJ V 6 (va_cpy cc ca 0 0 6))))) := by
  refine Ct.of (by decide) (Nat.le_of_ble_eq_true rfl) [(0, .ref a), (1, .ref c)] rfl (fun X hX F hQ => ?_)
  refine m_aload_n F rfl e_X3_copyFrom_0 ?_
  refine m_aload_n F rfl e_X3_copyFrom_1 ?_
  refine m_get F e_X3_copyFrom_2 fl_X3_18 h_c rfl ?_
  refine m_put F e_X3_copyFrom_5 fp_X3_18 h_a rfl rfl (Nat.le_of_ble_eq_true rfl) (fs' := [.ref (a + 1), .ref (a + 2), .int tc]) rfl rfl ?_
  refine m_aload_n F rfl e_X3_copyFrom_8 ?_
  refine m_get F e_X3_copyFrom_9 fl_X3_11 (ru_ne (by omega) h_c) rfl ?_
  refine m_iconst F (v := 0) (by decide) e_X3_copyFrom_12 ?_
  refine m_aload_n F rfl e_X3_copyFrom_13 ?_
  refine m_get F e_X3_copyFrom_14 fl_X3_11 ru_eq rfl ?_
  refine m_iconst F (v := 0) (by decide) e_X3_copyFrom_17 ?_
  refine m_sipush F (v := 360) (by decide) e_X3_copyFrom_18 ?_
  refine m_copyJ F e_X3_copyFrom_21 ac_X3_28 (ru_ne (by omega) h_c1) (ru_ne (by omega) h_a1) (by decide) (by decide) (by decide) (sp := 0) (dp := 0) (m := 360) (by decide) (by decide) (by decide) (by decide) (by decide) (Nat.le_of_ble_eq_true rfl) (Nat.le_of_ble_eq_true rfl) rfl rfl ?_
  refine m_aload_n F rfl e_X3_copyFrom_24 ?_
  refine m_get F e_X3_copyFrom_25 fl_X3_15 (ru_ne (by omega) (ru_ne (by omega) h_c)) rfl ?_
  refine m_iconst F (v := 0) (by decide) e_X3_copyFrom_28 ?_
  refine m_aload_n F rfl e_X3_copyFrom_29 ?_
  refine m_get F e_X3_copyFrom_30 fl_X3_15 (ru_ne (by omega) ru_eq) rfl ?_
  refine m_iconst F (v := 0) (by decide) e_X3_copyFrom_33 ?_
  refine m_bipush F (v := 6) (by decide) e_X3_copyFrom_34 ?_
  refine m_copyJ F e_X3_copyFrom_36 ac_X3_28 (ru_ne (by omega) (ru_ne (by omega) h_c2)) (ru_ne (by omega) (ru_ne (by omega) h_a2)) (by decide) (by decide) (by decide) (sp := 0) (dp := 0) (m := 6) (by decide) (by decide) (by decide) (by decide) (by decide) (Nat.le_of_ble_eq_true rfl) (Nat.le_of_ble_eq_true rfl) rfl rfl ?_
  exact m_vret F hQ e_X3_copyFrom_39 (⟨rfl, rfl⟩)
def EB (V : VX) (τ : Mem) (b p : Nat) : Prop := ∃ (ix tp : Nat → Int32) (rw ac : Nat → Int64) (h0 h1 t0 t1 : Int64), BK V τ b 0 0 0 (nI p) 0 0 ix tp rw ac 0 0 h0 h1 t0 t1
theorem EB.keep {V : VX} {σ τ : Mem} {b p : Nat} (h : EB V σ b p) (hk : ∀ x, b ≤ x → x ≤ b + 62 → τ x = σ x) : EB V τ b p := by
  obtain ⟨ix, tp, rw, ac, h0, h1, t0, t1, hb⟩ := h
  exact ⟨ix, tp, rw, ac, h0, h1, t0, t1, hb.keep (fun x g1 g2 => hk x g1 (by omega))⟩
theorem BZ.eb {V : VX} {τ : Mem} {b : Nat} (h : BZ V τ b) : EB V τ b 0 := ⟨_, _, _, _, _, _, _, _, h.1⟩
theorem EB.head {V : VX} {τ : Mem} {b p : Nat} (h : EB V τ b p) : τ b = some (ob 1 [.ref (b + 1), .ref (b + 2), .ref (b + 3), .ref (b + 4), .ref (b + 5), .ref (b + 8), .ref (b + 9), .ref (b + 10), .int 0, .int 0, .int 0, .int (nI p), .int 0]) := by
  obtain ⟨ix, tp, rw, ac, h0, h1, t0, t1, hb⟩ := h
  exact hb.1
theorem EB.jn {V : VX} {τ : Mem} {b p : Nat} (h : EB V τ b p) : τ (b + 5) = some (ob 2 [.ref (b + 6), .ref (b + 7), .int 0]) := by
  obtain ⟨ix, tp, rw, ac, h0, h1, t0, t1, hb⟩ := h
  exact hb.2.2.2.2.2.1
theorem EB.paid {V : VX} {τ : Mem} {b p : Nat} (h : EB V τ b p) : τ (b + 8) = some (ob 0 [.long 0, .long 0]) := by
  obtain ⟨ix, tp, rw, ac, h0, h1, t0, t1, hb⟩ := h
  exact hb.2.2.2.2.2.2.2.2.1
set_option maxRecDepth 20000 in
theorem k_period0 (l : Launch) (V : VX) (N : Nat) (σ : Mem) (b p : Nat)  (hB : EB V σ b p) (hp9 : p < 99) : Ct l V yX2_periodGoesBy cX2_periodGoesBy 3 none 1 0 0 N σ [.ref b] (fun r τ => r = none ∧ EB V τ b (p + 1) ∧ ∀ q : Nat, (q < b ∨ b + 62 < q) → τ q = σ q) := by
  refine Ct.of (by decide) (Nat.le_of_ble_eq_true rfl) [(0, .ref b)] rfl (fun X hX F hQ => ?_)
  obtain ⟨ix25, tp25, rw25, ac25, h025, h125, t025, t125, a0_25, a1_25, a2_25, a3_25, a4_25, a5_25, a6_25, a7_25, a8_25, a9_25, a10_25⟩ := hB
  refine m_aload_n F rfl e_X2_periodGoesBy_0 ?_
  refine m_get F e_X2_periodGoesBy_1 fl_X2_40 a0_25 rfl ?_
  refine m_lconst F (v := 0) (by decide) e_X2_periodGoesBy_4 ?_
  refine m_callV F e_X2_periodGoesBy_5 (k_set0 (x_l X) V _ _ (b + 8) 0 0 a8_25) cb_X1_set ml_X2_132 im_X1_set se_X1_set a8_25 rfl rfl (rest := []) rfl (Nat.le_of_ble_eq_true rfl) ⟨Nat.le_of_ble_eq_true rfl, Nat.le_of_ble_eq_true rfl⟩ ⟨Nat.le_of_ble_eq_true rfl, Nat.le_of_ble_eq_true rfl⟩ (k' := 0) (z' := 0) (N' := N) rfl rfl rfl (fun r τ hp => ?_)
  obtain ⟨rfl, rfl⟩ := hp
  refine m_aload_n F rfl e_X2_periodGoesBy_8 ?_
  refine m_get F e_X2_periodGoesBy_9 fl_X2_68 (ru_ne (by omega) a0_25) rfl ?_
  refine m_bipush F (v := 99) (by decide) e_X2_periodGoesBy_12 ?_
  refine m_icmp_lt F e_X2_periodGoesBy_14 (fun q14 => ?_) (fun q14 => ?_)
  · have c14 : p < 99 := (nI_ltI (a := p) (b := 99) (by omega) (by omega)).mp q14
    refine m_iconst F (v := 0) (by decide) e_X2_periodGoesBy_18 ?_
    refine m_istore_n F (lv' := [(1, .int 0), (0, .ref b)]) e_X2_periodGoesBy_19 (by decide) rfl ?_
    refine m_iload_n F rfl e_X2_periodGoesBy_20 ?_
    refine m_aload_n F rfl e_X2_periodGoesBy_21 ?_
    refine m_get F e_X2_periodGoesBy_22 fl_X2_58 (ru_ne (by omega) a0_25) rfl ?_
    refine m_icmp_ge F e_X2_periodGoesBy_25 (fun _ => ?_) (fun q => absurd (by decide) q)
    refine m_aload_n F rfl e_X2_periodGoesBy_123 ?_
    refine m_dup F rfl e_X2_periodGoesBy_124 ?_
    refine m_get F e_X2_periodGoesBy_125 fl_X2_68 (ru_ne (by omega) a0_25) rfl ?_
    refine m_iconst F (v := 1) (by decide) e_X2_periodGoesBy_128 ?_
    refine m_iadd F e_X2_periodGoesBy_129 ?_
    refine Wm.topE (w := nI (p + 1)) (nI_add p 1) ?_
    refine m_put F e_X2_periodGoesBy_130 fp_X2_68 (ru_ne (by omega) a0_25) rfl rfl (Nat.le_of_ble_eq_true rfl) (fs' := [.ref (b + 1), .ref (b + 2), .ref (b + 3), .ref (b + 4), .ref (b + 5), .ref (b + 8), .ref (b + 9), .ref (b + 10), .int 0, .int 0, .int 0, .int (nI (p + 1)), .int 0]) rfl rfl ?_
    exact m_vret F hQ e_X2_periodGoesBy_133 (⟨rfl, ⟨_, _, _, _, _, _, _, _, ru_eq, (ru_ne (by omega) (ru_ne (by omega) a1_25)), (ru_ne (by omega) (ru_ne (by omega) a2_25)), (ru_ne (by omega) (ru_ne (by omega) a3_25)), (ru_ne (by omega) (ru_ne (by omega) a4_25)), (ru_ne (by omega) (ru_ne (by omega) a5_25)), (ru_ne (by omega) (ru_ne (by omega) a6_25)), (ru_ne (by omega) (ru_ne (by omega) a7_25)), (ru_ne (by omega) ru_eq), (ru_ne (by omega) (ru_ne (by omega) a9_25)), (ru_ne (by omega) (ru_ne (by omega) a10_25))⟩, fun q h1 => (ru_ne (by omega) (ru_ne (by omega) rfl))⟩)
  · have c14 : p ≥ 99 := by have hh := mt (nI_ltI (a := p) (b := 99) (by omega) (by omega)).mpr q14; omega
    exfalso; omega
set_option maxRecDepth 20000 in
theorem k_leaseNamed0 (l : Launch) (V : VX) (N : Nat) (σ : Mem) (b p : Nat) (x : Int32) (hB : EB V σ b p)  : Ct l V yX2_leaseNamed cX2_leaseNamed 3 (some .int) 0 0 0 N σ [.ref b, .int x] (fun r τ => r = some (.int (-1)) ∧ τ = σ) := by
  refine Ct.of (by decide) (Nat.le_of_ble_eq_true rfl) [(0, .ref b), (1, .int x)] rfl (fun X hX F hQ => ?_)
  obtain ⟨ix26, tp26, rw26, ac26, h026, h126, t026, t126, a0_26, a1_26, a2_26, a3_26, a4_26, a5_26, a6_26, a7_26, a8_26, a9_26, a10_26⟩ := hB
  refine m_iconst F (v := 0) (by decide) e_X2_leaseNamed_0 ?_
  refine m_istore_n F (lv' := [(2, .int 0), (0, .ref b), (1, .int x)]) e_X2_leaseNamed_1 (by decide) rfl ?_
  refine m_iload_n F rfl e_X2_leaseNamed_2 ?_
  refine m_aload_n F rfl e_X2_leaseNamed_3 ?_
  refine m_get F e_X2_leaseNamed_4 fl_X2_58 a0_26 rfl ?_
  refine m_icmp_ge F e_X2_leaseNamed_7 (fun _ => ?_) (fun q => absurd (by decide) q)
  refine m_iconst F (v := (-1)) (by decide) e_X2_leaseNamed_31 ?_
  exact m_iret F hQ e_X2_leaseNamed_32 (⟨rfl, rfl⟩)
set_option maxRecDepth 20000 in
theorem k_findRates0 (l : Launch) (V : VX) (N : Nat) (σ : Mem) (b p : Nat) (a : Nat) (hB : EB V σ b p)  : Ct l V yX2_findRates cX2_findRates 5 none 0 0 0 N σ [.ref b, .ref a] (fun r τ => r = none ∧ τ = σ) := by
  refine Ct.of (by decide) (Nat.le_of_ble_eq_true rfl) [(0, .ref b), (1, .ref a)] rfl (fun X hX F hQ => ?_)
  obtain ⟨ix27, tp27, rw27, ac27, h027, h127, t027, t127, a0_27, a1_27, a2_27, a3_27, a4_27, a5_27, a6_27, a7_27, a8_27, a9_27, a10_27⟩ := hB
  refine m_iconst F (v := 0) (by decide) e_X2_findRates_0 ?_
  refine m_istore_n F (lv' := [(2, .int 0), (0, .ref b), (1, .ref a)]) e_X2_findRates_1 (by decide) rfl ?_
  refine m_iload_n F rfl e_X2_findRates_2 ?_
  refine m_aload_n F rfl e_X2_findRates_3 ?_
  refine m_get F e_X2_findRates_4 fl_X2_58 a0_27 rfl ?_
  refine m_icmp_ge F e_X2_findRates_7 (fun _ => ?_) (fun q => absurd (by decide) q)
  exact m_vret F hQ e_X2_findRates_64 (⟨rfl, rfl⟩)
set_option maxRecDepth 20000 in
theorem k_runningLeases0 (l : Launch) (V : VX) (N : Nat) (σ : Mem) (b p : Nat)  (hB : EB V σ b p)  : Ct l V yX2_runningLeases cX2_runningLeases 3 (some .int) 0 0 0 N σ [.ref b] (fun r τ => r = some (.int 0) ∧ τ = σ) := by
  refine Ct.of (by decide) (Nat.le_of_ble_eq_true rfl) [(0, .ref b)] rfl (fun X hX F hQ => ?_)
  obtain ⟨ix28, tp28, rw28, ac28, h028, h128, t028, t128, a0_28, a1_28, a2_28, a3_28, a4_28, a5_28, a6_28, a7_28, a8_28, a9_28, a10_28⟩ := hB
  refine m_iconst F (v := 0) (by decide) e_X2_runningLeases_0 ?_
  refine m_istore_n F (lv' := [(1, .int 0), (0, .ref b)]) e_X2_runningLeases_1 (by decide) rfl ?_
  refine m_iconst F (v := 0) (by decide) e_X2_runningLeases_2 ?_
  refine m_istore_n F (lv' := [(2, .int 0), (1, .int 0), (0, .ref b)]) e_X2_runningLeases_3 (by decide) rfl ?_
  refine m_iload_n F rfl e_X2_runningLeases_4 ?_
  refine m_aload_n F rfl e_X2_runningLeases_5 ?_
  refine m_get F e_X2_runningLeases_6 fl_X2_58 a0_28 rfl ?_
  refine m_icmp_ge F e_X2_runningLeases_9 (fun _ => ?_) (fun q => absurd (by decide) q)
  refine m_iload_n F rfl e_X2_runningLeases_34 ?_
  exact m_iret F hQ e_X2_runningLeases_35 (⟨rfl, rfl⟩)
set_option maxRecDepth 20000 in
theorem k_canTake0b (l : Launch) (V : VX) (N : Nat) (σ : Mem) (b p : Nat) (x : Int32) (hB : EB V σ b p)  : Ct l V yX2_canTake cX2_canTake 2 (some .boolean) 0 0 0 N σ [.ref b, .int x] (fun r τ => r = some (.int 0) ∧ τ = σ) := by
  refine Ct.of (by decide) (Nat.le_of_ble_eq_true rfl) [(0, .ref b), (1, .int x)] rfl (fun X hX F hQ => ?_)
  obtain ⟨ix29, tp29, rw29, ac29, h029, h129, t029, t129, a0_29, a1_29, a2_29, a3_29, a4_29, a5_29, a6_29, a7_29, a8_29, a9_29, a10_29⟩ := hB
  refine m_iload_n F rfl e_X2_canTake_0 ?_
  refine m_if_lt F e_X2_canTake_1 (fun q1 => ?_) (fun q1 => ?_)
  · refine m_iconst F (v := 0) (by decide) e_X2_canTake_35 ?_
    exact m_zret F hQ e_X2_canTake_36 (by decide) (⟨rfl, rfl⟩)
  · refine m_iload_n F rfl e_X2_canTake_4 ?_
    refine m_aload_n F rfl e_X2_canTake_5 ?_
    refine m_get F e_X2_canTake_6 fl_X2_62 a0_29 rfl ?_
    refine m_icmp_ge F e_X2_canTake_9 (fun q9 => ?_) (fun q9 => absurd q9 (fun n => n (Int32.not_lt.mp q1)))
    refine m_iconst F (v := 0) (by decide) e_X2_canTake_35 ?_
    exact m_zret F hQ e_X2_canTake_36 (by decide) (⟨rfl, rfl⟩)
set_option maxRecDepth 20000 in
theorem k_countAll0 (l : Launch) (V : VX) (N : Nat) (σ : Mem) (b p a : Nat) (hB : EB V σ b p) (ha : a < b ∨ b + 62 < a) (h_a : σ a = some (ob 0 [.long 0, .long 0])) : Ct l V yX2_countAllOwed cX2_countAllOwed 3 none 1 0 0 N σ [.ref b, .ref a] (fun r τ => r = none ∧ τ = (va_up σ a (some (ob 0 [.long 0, .long 0])))) := by
  refine Ct.of (by decide) (Nat.le_of_ble_eq_true rfl) [(0, .ref b), (1, .ref a)] rfl (fun X hX F hQ => ?_)
  obtain ⟨ix30, tp30, rw30, ac30, h030, h130, t030, t130, a0_30, a1_30, a2_30, a3_30, a4_30, a5_30, a6_30, a7_30, a8_30, a9_30, a10_30⟩ := hB
  refine m_aload_n F rfl e_X2_countAllOwed_0 ?_
  refine m_lconst F (v := 0) (by decide) e_X2_countAllOwed_1 ?_
  refine m_callV F e_X2_countAllOwed_2 (k_set0 (x_l X) V _ _ a 0 0 h_a) cb_X1_set ml_X2_132 im_X1_set se_X1_set h_a rfl rfl (rest := []) rfl (Nat.le_of_ble_eq_true rfl) ⟨Nat.le_of_ble_eq_true rfl, Nat.le_of_ble_eq_true rfl⟩ ⟨Nat.le_of_ble_eq_true rfl, Nat.le_of_ble_eq_true rfl⟩ (k' := 0) (z' := 0) (N' := N) rfl rfl rfl (fun r τ hp => ?_)
  obtain ⟨rfl, rfl⟩ := hp
  refine m_iconst F (v := 0) (by decide) e_X2_countAllOwed_5 ?_
  refine m_istore_n F (lv' := [(2, .int 0), (0, .ref b), (1, .ref a)]) e_X2_countAllOwed_6 (by decide) rfl ?_
  refine m_iload_n F rfl e_X2_countAllOwed_7 ?_
  refine m_aload_n F rfl e_X2_countAllOwed_8 ?_
  refine m_get F e_X2_countAllOwed_9 fl_X2_58 (ru_ne (by omega) a0_30) rfl ?_
  refine m_icmp_ge F e_X2_countAllOwed_12 (fun _ => ?_) (fun q => absurd (by decide) q)
  exact m_vret F hQ e_X2_countAllOwed_34 (⟨rfl, rfl⟩)
set_option maxRecDepth 20000 in
theorem k_indexNow0b (l : Launch) (V : VX) (N : Nat) (σ : Mem) (b p : Nat)  (hB : EB V σ b p) (hp9 : p < 100) : Ct l V yX2_indexNow cX2_indexNow 1 (some .int) 0 0 0 N σ [.ref b] (fun r τ => ∃ z : Int32, r = some (.int z) ∧ τ = σ) := by
  refine Ct.of (by decide) (Nat.le_of_ble_eq_true rfl) [(0, .ref b)] rfl (fun X hX F hQ => ?_)
  obtain ⟨ix31, tp31, rw31, ac31, h031, h131, t031, t131, a0_31, a1_31, a2_31, a3_31, a4_31, a5_31, a6_31, a7_31, a8_31, a9_31, a10_31⟩ := hB
  refine m_aload_n F rfl e_X2_indexNow_0 ?_
  refine m_get F e_X2_indexNow_1 fl_X2_68 a0_31 rfl ?_
  refine m_if_lt F e_X2_indexNow_4 (fun q4 => absurd q4 (fun h => absurd h (nI_pos (by omega)))) (fun q4 => ?_)
  refine m_aload_n F rfl e_X2_indexNow_7 ?_
  refine m_get F e_X2_indexNow_8 fl_X2_68 a0_31 rfl ?_
  refine m_bipush F (v := 99) (by decide) e_X2_indexNow_11 ?_
  refine m_icmp_gt F e_X2_indexNow_13 (fun q13 => ?_) (fun q13 => ?_)
  · have c13 : p > 99 := (nI_ltI (a := 99) (b := p) (by omega) (by omega)).mp q13
    exfalso; omega
  · have c13 : p ≤ 99 := by have hh := mt (nI_ltI (a := 99) (b := p) (by omega) (by omega)).mpr q13; omega
    refine m_aload_n F rfl e_X2_indexNow_16 ?_
    refine m_get F e_X2_indexNow_17 fl_X2_23 a0_31 rfl ?_
    refine m_aload_n F rfl e_X2_indexNow_20 ?_
    refine m_get F e_X2_indexNow_21 fl_X2_68 a0_31 rfl ?_
    refine m_iald F (j := p) e_X2_indexNow_24 a3_31 (nI_clamp (by omega)) (vp_in_nI (by omega) (by omega)) ?_
    refine m_goto F e_X2_indexNow_25 ?_
    exact m_iret F hQ e_X2_indexNow_31 (⟨_, rfl, rfl⟩)
theorem lp_changeIndex0 {V : VX} {X : MX} {N : Nat} {σ : Mem} {Post : Option Value → Mem → Prop} (F : Fx V X yX2_changeIndex cX2_changeIndex 4 none (rmd 0 0 0)) (hQ : Rt V X 0 0 N Post) {b p : Nat} {v : Int32} (h_b : σ b = some (ob 1 [.ref (b + 1), .ref (b + 2), .ref (b + 3), .ref (b + 4), .ref (b + 5), .ref (b + 8), .ref (b + 9), .ref (b + 10), .int 0, .int 0, .int 0, .int (nI p), .int 0])) (hp : ∀ f : Nat → Int32, Post none (va_up σ (b + 3) (some (aI V 100 f)))) : ∀ (n i : Nat) (f : Nat → Int32), i ≤ 100 → 100 - i < n → Wm V X 4 N (va_up σ (b + 3) (some (aI V 100 f))) 0 0 45 [(3, .int (nI i)), (0, .ref b), (1, .int v), (2, .int 100)] [] := by
  intro n
  induction n with
  | zero => intro i f h1 h2; exact absurd h2 (by omega)
  | succ n ih =>
    intro i f h1 h2
    refine m_iload_n F rfl e_X2_changeIndex_45 ?_
    refine m_iload_n F rfl e_X2_changeIndex_46 ?_
    refine m_icmp_ge F e_X2_changeIndex_47 (fun q47 => ?_) (fun q47 => ?_)
    · have c47 : i ≥ 100 := (nI_leI (a := 100) (b := i) (by omega) (by omega)).mp q47
      exact m_vret F hQ e_X2_changeIndex_69 (hp f)
    · have c47 : i < 100 := by have hh := mt (nI_leI (a := 100) (b := i) (by omega) (by omega)).mpr q47; omega
      refine m_iload_n F rfl e_X2_changeIndex_50 ?_
      refine m_bipush F (v := 99) (by decide) e_X2_changeIndex_51 ?_
      refine m_icmp_gt F e_X2_changeIndex_53 (fun q53 => ?_) (fun q53 => ?_)
      · have c53 : i > 99 := (nI_ltI (a := 99) (b := i) (by omega) (by omega)).mp q53
        exfalso; omega
      · have c53 : i ≤ 99 := by have hh := mt (nI_ltI (a := 99) (b := i) (by omega) (by omega)).mpr q53; omega
        refine m_aload_n F rfl e_X2_changeIndex_56 ?_
        refine m_get F e_X2_changeIndex_57 fl_X2_23 (ru_ne (by omega) h_b) rfl ?_
        refine m_iload_n F rfl e_X2_changeIndex_60 ?_
        refine m_iload_n F rfl e_X2_changeIndex_61 ?_
        refine m_iast F (j := i) e_X2_changeIndex_62 ru_eq (nI_clamp (by omega)) (vp_in_nI (by omega) (by omega)) rfl (bx_uu _ _ _ _) ?_
        refine m_iinc F (v := nI (i + 1)) (lv' := [(3, .int (nI (i + 1))), (0, .ref b), (1, .int v), (2, .int 100)]) e_X2_changeIndex_63 rfl (nI_add i 1) (by decide) rfl ?_
        refine m_goto F e_X2_changeIndex_66 ?_
        exact ih (i + 1) _ (by omega) (by omega)
set_option maxRecDepth 20000 in
theorem k_changeIndex0 (l : Launch) (V : VX) (N : Nat) (σ : Mem) (b p : Nat) (v : Int32) (hB : EB V σ b p) (hp9 : p < 100) : Ct l V yX2_changeIndex cX2_changeIndex 4 none 0 0 0 N σ [.ref b, .int v] (fun r τ => r = none ∧ EB V τ b p ∧ ∀ q : Nat, (q < b ∨ b + 62 < q) → τ q = σ q) := by
  refine Ct.of (by decide) (Nat.le_of_ble_eq_true rfl) [(0, .ref b), (1, .int v)] rfl (fun X hX F hQ => ?_)
  obtain ⟨ix32, tp32, rw32, ac32, h032, h132, t032, t132, a0_32, a1_32, a2_32, a3_32, a4_32, a5_32, a6_32, a7_32, a8_32, a9_32, a10_32⟩ := hB
  refine m_bipush F (v := 100) (by decide) e_X2_changeIndex_0 ?_
  refine m_istore_n F (lv' := [(2, .int 100), (0, .ref b), (1, .int v)]) e_X2_changeIndex_2 (by decide) rfl ?_
  refine m_aload_n F rfl e_X2_changeIndex_3 ?_
  refine m_get F e_X2_changeIndex_4 fl_X2_65 a0_32 rfl ?_
  refine m_iconst F (v := 1) (by decide) e_X2_changeIndex_7 ?_
  refine m_isub F e_X2_changeIndex_8 ?_
  refine Wm.topE (w := (-1)) (by decide) ?_
  refine m_istore_n F (lv' := [(3, .int (-1)), (2, .int 100), (0, .ref b), (1, .int v)]) e_X2_changeIndex_9 (by decide) rfl ?_
  refine m_iload_n F rfl e_X2_changeIndex_10 ?_
  refine m_if_lt F e_X2_changeIndex_11 (fun _ => ?_) (fun q => absurd (by decide) q)
  refine m_aload_n F rfl e_X2_changeIndex_40 ?_
  refine m_get F e_X2_changeIndex_41 fl_X2_68 a0_32 rfl ?_
  refine m_istore_n F (lv' := [(3, .int (nI p)), (2, .int 100), (0, .ref b), (1, .int v)]) e_X2_changeIndex_44 (by decide) rfl ?_
  refine Wm.lvsub (lv' := [(3, .int (nI p)), (0, .ref b), (1, .int v), (2, .int 100)]) ?_ [0, 2, 3, 1] rfl
  refine Wm.memE (up_self a3_32) ?_
  exact lp_changeIndex0 F hQ a0_32 (fun f9 => ⟨rfl, ⟨_, _, _, _, _, _, _, _, (ru_ne (by omega) a0_32), (ru_ne (by omega) a1_32), (ru_ne (by omega) a2_32), ru_eq, (ru_ne (by omega) a4_32), (ru_ne (by omega) a5_32), (ru_ne (by omega) a6_32), (ru_ne (by omega) a7_32), (ru_ne (by omega) a8_32), (ru_ne (by omega) a9_32), (ru_ne (by omega) a10_32)⟩, fun q h1 => ru_ne (by omega) rfl⟩) 101 p _ (by omega) (by omega)
set_option maxRecDepth 20000 in
theorem k_Bcopy0 (l : Launch) (V : VX) (N : Nat) (σ : Mem) (b p : Nat) (c p2 : Nat) (hB : EB V σ b p) (hC : EB V σ c p2) (hbc : b + 62 < c ∨ c + 62 < b) : Ct l V yX2_copyFrom cX2_copyFrom 3 none 2 0 0 N σ [.ref b, .ref c] (fun r τ => r = none ∧ EB V τ b p2 ∧ ∀ q : Nat, (q < b ∨ b + 62 < q) → τ q = σ q) := by
  refine Ct.of (by decide) (Nat.le_of_ble_eq_true rfl) [(0, .ref b), (1, .ref c)] rfl (fun X hX F hQ => ?_)
  obtain ⟨ix33, tp33, rw33, ac33, h033, h133, t033, t133, a0_33, a1_33, a2_33, a3_33, a4_33, a5_33, a6_33, a7_33, a8_33, a9_33, a10_33⟩ := hB
  obtain ⟨ix34, tp34, rw34, ac34, h034, h134, t034, t134, a0_34, a1_34, a2_34, a3_34, a4_34, a5_34, a6_34, a7_34, a8_34, a9_34, a10_34⟩ := hC
  refine m_aload_n F rfl e_X2_copyFrom_0 ?_
  refine m_aload_n F rfl e_X2_copyFrom_1 ?_
  refine m_get F e_X2_copyFrom_2 fl_X2_58 a0_34 rfl ?_
  refine m_put F e_X2_copyFrom_5 fp_X2_58 a0_33 rfl rfl (Nat.le_of_ble_eq_true rfl) (fs' := [.ref (b + 1), .ref (b + 2), .ref (b + 3), .ref (b + 4), .ref (b + 5), .ref (b + 8), .ref (b + 9), .ref (b + 10), .int 0, .int 0, .int 0, .int (nI p), .int 0]) rfl (up_self a0_33).symm ?_
  refine m_aload_n F rfl e_X2_copyFrom_8 ?_
  refine m_aload_n F rfl e_X2_copyFrom_9 ?_
  refine m_get F e_X2_copyFrom_10 fl_X2_62 a0_34 rfl ?_
  refine m_put F e_X2_copyFrom_13 fp_X2_62 a0_33 rfl rfl (Nat.le_of_ble_eq_true rfl) (fs' := [.ref (b + 1), .ref (b + 2), .ref (b + 3), .ref (b + 4), .ref (b + 5), .ref (b + 8), .ref (b + 9), .ref (b + 10), .int 0, .int 0, .int 0, .int (nI p), .int 0]) rfl (up_self a0_33).symm ?_
  refine m_aload_n F rfl e_X2_copyFrom_16 ?_
  refine m_aload_n F rfl e_X2_copyFrom_17 ?_
  refine m_get F e_X2_copyFrom_18 fl_X2_65 a0_34 rfl ?_
  refine m_put F e_X2_copyFrom_21 fp_X2_65 a0_33 rfl rfl (Nat.le_of_ble_eq_true rfl) (fs' := [.ref (b + 1), .ref (b + 2), .ref (b + 3), .ref (b + 4), .ref (b + 5), .ref (b + 8), .ref (b + 9), .ref (b + 10), .int 0, .int 0, .int 0, .int (nI p), .int 0]) rfl (up_self a0_33).symm ?_
  refine m_aload_n F rfl e_X2_copyFrom_24 ?_
  refine m_aload_n F rfl e_X2_copyFrom_25 ?_
  refine m_get F e_X2_copyFrom_26 fl_X2_68 a0_34 rfl ?_
  refine m_put F e_X2_copyFrom_29 fp_X2_68 a0_33 rfl rfl (Nat.le_of_ble_eq_true rfl) (fs' := [.ref (b + 1), .ref (b + 2), .ref (b + 3), .ref (b + 4), .ref (b + 5), .ref (b + 8), .ref (b + 9), .ref (b + 10), .int 0, .int 0, .int 0, .int (nI p2), .int 0]) rfl rfl ?_
  refine m_aload_n F rfl e_X2_copyFrom_32 ?_
  refine m_aload_n F rfl e_X2_copyFrom_33 ?_
  refine m_get F e_X2_copyFrom_34 fl_X2_71 (ru_ne (by omega) a0_34) rfl ?_
  refine m_put F e_X2_copyFrom_37 fp_X2_71 ru_eq rfl rfl (Nat.le_of_ble_eq_true rfl) (fs' := [.ref (b + 1), .ref (b + 2), .ref (b + 3), .ref (b + 4), .ref (b + 5), .ref (b + 8), .ref (b + 9), .ref (b + 10), .int 0, .int 0, .int 0, .int (nI p2), .int 0]) rfl (up_self ru_eq).symm ?_
  refine m_aload_n F rfl e_X2_copyFrom_40 ?_
  refine m_get F e_X2_copyFrom_41 fl_X2_23 (ru_ne (by omega) a0_34) rfl ?_
  refine m_iconst F (v := 0) (by decide) e_X2_copyFrom_44 ?_
  refine m_aload_n F rfl e_X2_copyFrom_45 ?_
  refine m_get F e_X2_copyFrom_46 fl_X2_23 ru_eq rfl ?_
  refine m_iconst F (v := 0) (by decide) e_X2_copyFrom_49 ?_
  refine m_bipush F (v := 100) (by decide) e_X2_copyFrom_50 ?_
  refine m_copyI F e_X2_copyFrom_52 ac_X2_77 (ru_ne (by omega) a3_34) (ru_ne (by omega) a3_33) (by decide) (by decide) (by decide) (sp := 0) (dp := 0) (m := 100) (by decide) (by decide) (by decide) (by decide) (by decide) (Nat.le_of_ble_eq_true rfl) (Nat.le_of_ble_eq_true rfl) rfl rfl ?_
  refine m_aload_n F rfl e_X2_copyFrom_55 ?_
  refine m_get F e_X2_copyFrom_56 fl_X2_27 (ru_ne (by omega) (ru_ne (by omega) a0_34)) rfl ?_
  refine m_iconst F (v := 0) (by decide) e_X2_copyFrom_59 ?_
  refine m_aload_n F rfl e_X2_copyFrom_60 ?_
  refine m_get F e_X2_copyFrom_61 fl_X2_27 (ru_ne (by omega) ru_eq) rfl ?_
  refine m_iconst F (v := 0) (by decide) e_X2_copyFrom_64 ?_
  refine m_bipush F (v := 8) (by decide) e_X2_copyFrom_65 ?_
  refine m_copyI F e_X2_copyFrom_67 ac_X2_77 (ru_ne (by omega) (ru_ne (by omega) a4_34)) (ru_ne (by omega) (ru_ne (by omega) a4_33)) (by decide) (by decide) (by decide) (sp := 0) (dp := 0) (m := 8) (by decide) (by decide) (by decide) (by decide) (by decide) (Nat.le_of_ble_eq_true rfl) (Nat.le_of_ble_eq_true rfl) rfl rfl ?_
  refine m_aload_n F rfl e_X2_copyFrom_70 ?_
  refine m_get F e_X2_copyFrom_71 fl_X2_33 (ru_ne (by omega) (ru_ne (by omega) ru_eq)) rfl ?_
  refine m_aload_n F rfl e_X2_copyFrom_74 ?_
  refine m_get F e_X2_copyFrom_75 fl_X2_33 (ru_ne (by omega) (ru_ne (by omega) (ru_ne (by omega) a0_34))) rfl ?_
  refine m_callV F e_X2_copyFrom_78 (k_Jcopy (x_l X) V _ _ (b + 5) (c + 5) 0 0 rw33 ac33 rw34 ac34 (by omega) (ru_ne (by omega) (ru_ne (by omega) (ru_ne (by omega) a5_33))) (ru_ne (by omega) (ru_ne (by omega) (ru_ne (by omega) a6_33))) (ru_ne (by omega) (ru_ne (by omega) (ru_ne (by omega) a7_33))) (ru_ne (by omega) (ru_ne (by omega) (ru_ne (by omega) a5_34))) (ru_ne (by omega) (ru_ne (by omega) (ru_ne (by omega) a6_34))) (ru_ne (by omega) (ru_ne (by omega) (ru_ne (by omega) a7_34)))) cb_X3_copyFrom ml_X2_83 im_X3_copyFrom se_X3_copyFrom (ru_ne (by omega) (ru_ne (by omega) (ru_ne (by omega) a5_33))) rfl rfl (rest := []) rfl (Nat.le_of_ble_eq_true rfl) ⟨Nat.le_of_ble_eq_true rfl, Nat.le_of_ble_eq_true rfl⟩ ⟨Nat.le_of_ble_eq_true rfl, Nat.le_of_ble_eq_true rfl⟩ (k' := 0) (z' := 0) (N' := N) rfl rfl rfl (fun r τ hp => ?_)
  obtain ⟨rfl, rfl⟩ := hp
  refine m_iconst F (v := 0) (by decide) e_X2_copyFrom_81 ?_
  refine m_istore_n F (lv' := [(2, .int 0), (0, .ref b), (1, .ref c)]) e_X2_copyFrom_82 (by decide) rfl ?_
  refine m_iload_n F rfl e_X2_copyFrom_83 ?_
  refine m_aload_n F rfl e_X2_copyFrom_84 ?_
  refine m_get F e_X2_copyFrom_85 fl_X2_58 (ru_ne (by omega) (ru_ne (by omega) (ru_ne (by omega) (ru_ne (by omega) (ru_ne (by omega) ru_eq))))) rfl ?_
  refine m_icmp_ge F e_X2_copyFrom_88 (fun _ => ?_) (fun q => absurd (by decide) q)
  refine m_iconst F (v := 0) (by decide) e_X2_copyFrom_112 ?_
  refine m_istore_n F (lv' := [(2, .int 0), (0, .ref b), (1, .ref c)]) e_X2_copyFrom_113 (by decide) rfl ?_
  refine m_iload_n F rfl e_X2_copyFrom_114 ?_
  refine m_aload_n F rfl e_X2_copyFrom_115 ?_
  refine m_get F e_X2_copyFrom_116 fl_X2_62 (ru_ne (by omega) (ru_ne (by omega) (ru_ne (by omega) (ru_ne (by omega) (ru_ne (by omega) ru_eq))))) rfl ?_
  refine m_icmp_ge F e_X2_copyFrom_119 (fun _ => ?_) (fun q => absurd (by decide) q)
  exact m_vret F hQ e_X2_copyFrom_143 (⟨rfl, ⟨_, _, _, _, _, _, _, _, (ru_ne (by omega) (ru_ne (by omega) (ru_ne (by omega) (ru_ne (by omega) (ru_ne (by omega) ru_eq))))), (ru_ne (by omega) (ru_ne (by omega) (ru_ne (by omega) (ru_ne (by omega) (ru_ne (by omega) (ru_ne (by omega) a1_33)))))), (ru_ne (by omega) (ru_ne (by omega) (ru_ne (by omega) (ru_ne (by omega) (ru_ne (by omega) (ru_ne (by omega) a2_33)))))), (ru_ne (by omega) (ru_ne (by omega) (ru_ne (by omega) (ru_ne (by omega) ru_eq)))), (ru_ne (by omega) (ru_ne (by omega) (ru_ne (by omega) ru_eq))), (ru_ne (by omega) (ru_ne (by omega) ru_eq)), (ru_ne (by omega) ru_eq), ru_eq, (ru_ne (by omega) (ru_ne (by omega) (ru_ne (by omega) (ru_ne (by omega) (ru_ne (by omega) (ru_ne (by omega) a8_33)))))), (ru_ne (by omega) (ru_ne (by omega) (ru_ne (by omega) (ru_ne (by omega) (ru_ne (by omega) (ru_ne (by omega) a9_33)))))), (ru_ne (by omega) (ru_ne (by omega) (ru_ne (by omega) (ru_ne (by omega) (ru_ne (by omega) (ru_ne (by omega) a10_33))))))⟩, fun q h1 => (ru_ne (by omega) (ru_ne (by omega) (ru_ne (by omega) (ru_ne (by omega) (ru_ne (by omega) (ru_ne (by omega) rfl))))))⟩)
theorem lp_year0 {V : VX} {X : MX} {N : Nat} {σ : Mem} {Post : Option Value → Mem → Prop} (F : Fx V X yX2_yearByChance cX2_yearByChance 7 (some .long) (rmd 2 0 0)) (hQ : Rt V X 0 0 N Post) {b p : Nat} (hpp : p + 12 ≤ 99) (hp : ∀ (z : Int64) (τ : Mem), EB V τ b (p + 12) → (∀ q : Nat, (q < b ∨ b + 62 < q) → τ q = σ q) → Post (some (.long z)) τ) : ∀ (n i : Nat) (τ : Mem) (la : Int64), i ≤ 12 → 12 - i < n → EB V τ b (p + i) → (∀ q : Nat, (q < b ∨ b + 62 < q) → τ q = σ q) → Wm V X 7 N τ 0 0 5 [(5, .int (nI i)), (0, .ref b), (3, .long la)] [] := by
  intro n
  induction n with
  | zero => intro i τ la h1 h2; exact absurd h2 (by omega)
  | succ n ih =>
    intro i τ la h1 h2 hE hfr
    refine m_iload F rfl e_X2_yearByChance_5 ?_
    refine m_bipush F (v := 12) (by decide) e_X2_yearByChance_7 ?_
    refine m_icmp_ge F e_X2_yearByChance_9 (fun q9 => ?_) (fun q9 => ?_)
    · have c9 : i ≥ 12 := (nI_leI (a := 12) (b := i) (by omega) (by omega)).mp q9
      have hi9 : i = 12 := by omega
      subst hi9
      refine m_lload_n F rfl e_X2_yearByChance_74 ?_
      exact m_lret F hQ e_X2_yearByChance_75 (hp _ _ hE hfr)
    · have c9 : i < 12 := by have hh := mt (nI_leI (a := 12) (b := i) (by omega) (by omega)).mpr q9; omega
      refine m_lload_n F rfl e_X2_yearByChance_12 ?_
      refine m_ldc2 F kc_X2_251 e_X2_yearByChance_13 ?_
      refine m_lmul F e_X2_yearByChance_16 ?_
      refine m_ldc2 F kc_X2_253 e_X2_yearByChance_17 ?_
      refine m_ladd F e_X2_yearByChance_20 ?_
      refine m_ldc2 F kc_X2_255 e_X2_yearByChance_21 ?_
      refine m_land F e_X2_yearByChance_24 ?_
      refine m_lstore_n F (lv' := [(3, .long (((la * 1103515245) + 12345) &&& 2147483647)), (5, .int (nI i)), (0, .ref b)]) e_X2_yearByChance_25 (by decide) rfl ?_
      refine m_lload_n F rfl e_X2_yearByChance_26 ?_
      refine m_ldc2 F kc_X2_257 e_X2_yearByChance_27 ?_
      refine m_ldiv F (by decide) e_X2_yearByChance_30 ?_
      refine m_ldc2 F kc_X2_259 e_X2_yearByChance_31 ?_
      refine m_lrem F (by decide) e_X2_yearByChance_34 ?_
      refine m_l2i F e_X2_yearByChance_35 ?_
      refine m_bipush F (v := 10) (by decide) e_X2_yearByChance_36 ?_
      refine m_isub F e_X2_yearByChance_38 ?_
      refine m_istore F (lv' := [(6, .int (((((((la * 1103515245) + 12345) &&& 2147483647) / 65536) - ((((la * 1103515245) + 12345) &&& 2147483647) / 65536) / 21 * 21)).toInt32 - 10)), (3, .long (((la * 1103515245) + 12345) &&& 2147483647)), (5, .int (nI i)), (0, .ref b)]) e_X2_yearByChance_39 (by decide) rfl ?_
      refine m_aload_n F rfl e_X2_yearByChance_41 ?_
      refine m_sipush F (v := 500) (by decide) e_X2_yearByChance_42 ?_
      refine m_sipush F (v := 2000) (by decide) e_X2_yearByChance_45 ?_
      refine m_aload_n F rfl e_X2_yearByChance_48 ?_
      refine m_callV F e_X2_yearByChance_49 (k_indexNow0b (x_l X) V _ _ b (p + i)  hE (by omega)) cb_X2_indexNow ml_X2_153 im_X2_indexNow se_X2_indexNow hE.head rfl rfl (rest := [.int 2000, .int 500, .ref b]) rfl (Nat.le_of_ble_eq_true rfl) ⟨Nat.le_of_ble_eq_true rfl, Nat.le_of_ble_eq_true rfl⟩ ⟨Nat.le_of_ble_eq_true rfl, Nat.le_of_ble_eq_true rfl⟩ (k' := 0) (z' := 0) (N' := N) rfl rfl rfl (fun r τ hp => ?_)
      obtain ⟨z36, rfl, rfl⟩ := hp
      refine m_iload F rfl e_X2_yearByChance_52 ?_
      refine m_iadd F e_X2_yearByChance_54 ?_
      refine m_min F e_X2_yearByChance_55 ml_X2_261 sm_min ini_math co_min (Nat.le_of_ble_eq_true rfl) (Nat.le_of_ble_eq_true rfl) (Nat.le_of_ble_eq_true rfl) (Nat.le_of_ble_eq_true rfl) ?_
      refine m_max F e_X2_yearByChance_58 ml_X2_267 sm_max ini_math co_max (Nat.le_of_ble_eq_true rfl) (Nat.le_of_ble_eq_true rfl) (Nat.le_of_ble_eq_true rfl) (Nat.le_of_ble_eq_true rfl) ?_
      refine m_callV F e_X2_yearByChance_61 (k_changeIndex0 (x_l X) V _ _ b (p + i) (if 500 < (if (z36 + (((((((la * 1103515245) + 12345) &&& 2147483647) / 65536) - ((((la * 1103515245) + 12345) &&& 2147483647) / 65536) / 21 * 21)).toInt32 - 10)) < 2000 then (z36 + (((((((la * 1103515245) + 12345) &&& 2147483647) / 65536) - ((((la * 1103515245) + 12345) &&& 2147483647) / 65536) / 21 * 21)).toInt32 - 10)) else 2000) then (if (z36 + (((((((la * 1103515245) + 12345) &&& 2147483647) / 65536) - ((((la * 1103515245) + 12345) &&& 2147483647) / 65536) / 21 * 21)).toInt32 - 10)) < 2000 then (z36 + (((((((la * 1103515245) + 12345) &&& 2147483647) / 65536) - ((((la * 1103515245) + 12345) &&& 2147483647) / 65536) / 21 * 21)).toInt32 - 10)) else 2000) else 500) hE (by omega)) cb_X2_changeIndex ml_X2_270 im_X2_changeIndex se_X2_changeIndex hE.head rfl rfl (rest := []) rfl (Nat.le_of_ble_eq_true rfl) ⟨Nat.le_of_ble_eq_true rfl, Nat.le_of_ble_eq_true rfl⟩ ⟨Nat.le_of_ble_eq_true rfl, Nat.le_of_ble_eq_true rfl⟩ (k' := 0) (z' := 0) (N' := N) rfl rfl rfl (fun r τ37 hp => ?_)
      obtain ⟨rfl, eb38, hf39⟩ := hp
      have fr40 : ∀ q : Nat, (q < b ∨ b + 62 < q) → τ37 q = σ q := fun q h => (hf39 q h).trans (hfr q h)
      refine m_aload_n F rfl e_X2_yearByChance_64 ?_
      refine m_callV F e_X2_yearByChance_65 (k_period0 (x_l X) V _ _ b (p + i)  eb38 (by omega)) cb_X2_periodGoesBy ml_X2_273 im_X2_periodGoesBy se_X2_periodGoesBy eb38.head rfl rfl (rest := []) rfl (Nat.le_of_ble_eq_true rfl) ⟨Nat.le_of_ble_eq_true rfl, Nat.le_of_ble_eq_true rfl⟩ ⟨Nat.le_of_ble_eq_true rfl, Nat.le_of_ble_eq_true rfl⟩ (k' := 0) (z' := 0) (N' := N) rfl rfl rfl (fun r τ41 hp => ?_)
      obtain ⟨rfl, eb42, hf43⟩ := hp
      have fr44 : ∀ q : Nat, (q < b ∨ b + 62 < q) → τ41 q = σ q := fun q h => (hf43 q h).trans (fr40 q h)
      refine m_iinc F (v := nI (i + 1)) (lv' := [(5, .int (nI (i + 1))), (6, .int (((((((la * 1103515245) + 12345) &&& 2147483647) / 65536) - ((((la * 1103515245) + 12345) &&& 2147483647) / 65536) / 21 * 21)).toInt32 - 10)), (3, .long (((la * 1103515245) + 12345) &&& 2147483647)), (0, .ref b)]) e_X2_yearByChance_68 rfl (nI_add i 1) (by decide) rfl ?_
      refine m_goto F e_X2_yearByChance_71 ?_
      refine Wm.lvsub (lv' := [(5, .int (nI (i + 1))), (0, .ref b), (3, .long (((la * 1103515245) + 12345) &&& 2147483647))]) ?_ [0, 3, 2] rfl
      exact ih (i + 1) _ _ (by omega) (by omega) eb42 fr44
set_option maxRecDepth 20000 in
theorem k_year0 (l : Launch) (V : VX) (N : Nat) (σ : Mem) (b p : Nat) (v : Int64) (hB : EB V σ b p) (hpp : p + 12 ≤ 99) : Ct l V yX2_yearByChance cX2_yearByChance 7 (some .long) 2 0 0 N σ [.ref b, .long v] (fun r τ => ∃ z : Int64, r = some (.long z) ∧ EB V τ b (p + 12) ∧ ∀ q : Nat, (q < b ∨ b + 62 < q) → τ q = σ q) := by
  refine Ct.of (by decide) (Nat.le_of_ble_eq_true rfl) [(0, .ref b), (1, .long v)] rfl (fun X hX F hQ => ?_)
  refine m_lload_n F rfl e_X2_yearByChance_0 ?_
  refine m_lstore_n F (lv' := [(3, .long v), (0, .ref b), (1, .long v)]) e_X2_yearByChance_1 (by decide) rfl ?_
  refine m_iconst F (v := 0) (by decide) e_X2_yearByChance_2 ?_
  refine m_istore F (lv' := [(5, .int 0), (3, .long v), (0, .ref b), (1, .long v)]) e_X2_yearByChance_3 (by decide) rfl ?_
  refine Wm.lvsub (lv' := [(5, .int 0), (0, .ref b), (3, .long v)]) ?_ [0, 2, 1] rfl
  exact lp_year0 F hQ hpp (fun z τ h1 h2 => ⟨z, rfl, h1, h2⟩) 13 0 _ _ (by omega) (by omega) hB (fun q _ => rfl)
end
section
theorem e_X9_coming_0 : DC cX9_coming 0 1 1 (.iconst 0) := ⟨by decide +kernel, rfl⟩
theorem e_X9_coming_1 : DC cX9_coming 1 1 2 (.iload_n 1) := ⟨by decide +kernel, rfl⟩
theorem e_X9_coming_2 : DC cX9_coming 2 2 4 (.bipush 99) := ⟨by decide +kernel, rfl⟩
theorem e_X9_coming_4 : DC cX9_coming 4 1 5 (.aload_n 0) := ⟨by decide +kernel, rfl⟩
theorem e_X9_coming_5 : DC cX9_coming 5 3 8 (.getfield 16) := ⟨by decide +kernel, rfl⟩
theorem fl_X9_16 : FL RX9 16 7 2 := ⟨RX9, TX9, 13, rfl, by decide, uw_7, tb_in 332 (by decide +kernel) (by decide +kernel), rfl⟩
theorem e_X9_coming_8 : DC cX9_coming 8 3 11 (.getfield 94) := ⟨by decide +kernel, rfl⟩
theorem fl_X9_94 : FL RX9 94 1 11 := ⟨RX2, TX2, 13, rfl, by decide, uw_1, tb_in 247 (by decide +kernel) (by decide +kernel), rfl⟩
theorem e_X9_coming_11 : DC cX9_coming 11 1 12 (.isub) := ⟨by decide +kernel, rfl⟩
theorem e_X9_coming_12 : DC cX9_coming 12 3 15 (.invokestatic 386) := ⟨by decide +kernel, rfl⟩
theorem ml_X9_386 : Cond.methodLink RX9 386 Lib.Math.min.name ∈ tb := tb_in 1205 (by decide +kernel) (by decide +kernel)
theorem e_X9_coming_15 : DC cX9_coming 15 3 18 (.invokestatic 392) := ⟨by decide +kernel, rfl⟩
theorem ml_X9_392 : Cond.methodLink RX9 392 Lib.Math.max.name ∈ tb := tb_in 1206 (by decide +kernel) (by decide +kernel)
theorem e_X9_coming_18 : DC cX9_coming 18 1 19 (.ireturn) := ⟨by decide +kernel, rfl⟩
theorem e_X9_leaseAt_0 : DC cX9_leaseAt 0 1 1 (.iload_n 1) := ⟨by decide +kernel, rfl⟩
theorem e_X9_leaseAt_1 : DJ cX9_leaseAt 1 27 4 (.ifCond .lt) := DJ.mk 26 (by decide +kernel) (by decide) rfl
theorem e_X9_leaseAt_27 : DC cX9_leaseAt 27 1 28 (.aconst_null) := ⟨by decide +kernel, rfl⟩
theorem e_X9_leaseAt_28 : DC cX9_leaseAt 28 1 29 (.areturn) := ⟨by decide +kernel, rfl⟩
theorem e_X9_leaseAt_4 : DC cX9_leaseAt 4 1 5 (.iload_n 1) := ⟨by decide +kernel, rfl⟩
theorem e_X9_leaseAt_5 : DC cX9_leaseAt 5 1 6 (.aload_n 0) := ⟨by decide +kernel, rfl⟩
theorem e_X9_leaseAt_6 : DC cX9_leaseAt 6 3 9 (.getfield 16) := ⟨by decide +kernel, rfl⟩
theorem e_X9_leaseAt_9 : DC cX9_leaseAt 9 3 12 (.getfield 358) := ⟨by decide +kernel, rfl⟩
theorem fl_X9_358 : FL RX9 358 1 8 := ⟨RX2, TX2, 13, rfl, by decide, uw_1, tb_in 240 (by decide +kernel) (by decide +kernel), rfl⟩
theorem e_X9_leaseAt_12 : DJ cX9_leaseAt 12 27 15 (.if_icmp .ge) := DJ.mk 15 (by decide +kernel) (by decide) rfl
theorem e_X9_runningAt_0 : DC cX9_runningAt 0 1 1 (.aload_n 0) := ⟨by decide +kernel, rfl⟩
theorem e_X9_runningAt_1 : DC cX9_runningAt 1 1 2 (.iload_n 1) := ⟨by decide +kernel, rfl⟩
theorem e_X9_runningAt_2 : DC cX9_runningAt 2 3 5 (.invokevirtual 103) := ⟨by decide +kernel, rfl⟩
theorem cb_X9_leaseAt : CB yX9_leaseAt cX9_leaseAt 2 (some (.object "LeaseLedger$Lease")) 1 := ⟨tb_in 1051 (by decide +kernel) (by decide +kernel), tb_in 1 (by decide +kernel) (by decide +kernel), by decide +kernel⟩
theorem ml_X9_103 : Cond.methodLink RX9 103 yX9_leaseAt ∈ tb := tb_in 1048 (by decide +kernel) (by decide +kernel)
theorem im_X9_leaseAt : Cond.instanceMethod yX9_leaseAt ∈ tb := tb_in 1050 (by decide +kernel) (by decide +kernel)
theorem se_X9_leaseAt : Cond.selects (yX9_leaseAt).cls yX9_leaseAt yX9_leaseAt ∈ tb := tb_sel 4 (by decide +kernel) (by decide +kernel)
theorem e_X9_runningAt_5 : DC cX9_runningAt 5 1 6 (.astore_n 2) := ⟨by decide +kernel, rfl⟩
theorem e_X9_runningAt_6 : DC cX9_runningAt 6 1 7 (.aload_n 2) := ⟨by decide +kernel, rfl⟩
theorem e_X9_runningAt_7 : DJ cX9_runningAt 7 22 10 .ifnull := DJ.mk 15 (by decide +kernel) (by decide) rfl
theorem e_X9_runningAt_22 : DC cX9_runningAt 22 1 23 (.aconst_null) := ⟨by decide +kernel, rfl⟩
theorem e_X9_runningAt_23 : DC cX9_runningAt 23 1 24 (.areturn) := ⟨by decide +kernel, rfl⟩
theorem e_X9_remember_0 : DC cX9_remember 0 1 1 (.aload_n 0) := ⟨by decide +kernel, rfl⟩
theorem e_X9_remember_1 : DC cX9_remember 1 3 4 (.getfield 35) := ⟨by decide +kernel, rfl⟩
theorem e_X9_remember_4 : DC cX9_remember 4 1 5 (.aload_n 0) := ⟨by decide +kernel, rfl⟩
theorem e_X9_remember_5 : DC cX9_remember 5 3 8 (.getfield 371) := ⟨by decide +kernel, rfl⟩
theorem fl_X9_371 : FL RX9 371 7 8 := ⟨RX9, TX9, 13, rfl, by decide, uw_7, tb_in 338 (by decide +kernel) (by decide +kernel), rfl⟩
theorem e_X9_remember_8 : DC cX9_remember 8 1 9 (.aload_n 0) := ⟨by decide +kernel, rfl⟩
theorem e_X9_remember_9 : DC cX9_remember 9 3 12 (.getfield 368) := ⟨by decide +kernel, rfl⟩
theorem fl_X9_368 : FL RX9 368 7 9 := ⟨RX9, TX9, 13, rfl, by decide, uw_7, tb_in 339 (by decide +kernel) (by decide +kernel), rfl⟩
theorem e_X9_remember_12 : DC cX9_remember 12 1 13 (.iadd) := ⟨by decide +kernel, rfl⟩
theorem e_X9_remember_13 : DC cX9_remember 13 2 15 (.bipush 20) := ⟨by decide +kernel, rfl⟩
theorem e_X9_remember_15 : DC cX9_remember 15 1 16 (.irem) := ⟨by decide +kernel, rfl⟩
theorem e_X9_remember_16 : DC cX9_remember 16 1 17 (.aaload) := ⟨by decide +kernel, rfl⟩
theorem e_X9_remember_17 : DC cX9_remember 17 1 18 (.aload_n 0) := ⟨by decide +kernel, rfl⟩
theorem e_X9_remember_18 : DC cX9_remember 18 3 21 (.getfield 16) := ⟨by decide +kernel, rfl⟩
theorem e_X9_remember_21 : DC cX9_remember 21 3 24 (.invokevirtual 374) := ⟨by decide +kernel, rfl⟩
theorem cb_X2_copyFrom : CB yX2_copyFrom cX2_copyFrom 3 none 1 := ⟨tb_in 944 (by decide +kernel) (by decide +kernel), tb_in 2 (by decide +kernel) (by decide +kernel), by decide +kernel⟩
theorem ml_X9_374 : Cond.methodLink RX9 374 yX2_copyFrom ∈ tb := tb_in 941 (by decide +kernel) (by decide +kernel)
theorem im_X2_copyFrom : Cond.instanceMethod yX2_copyFrom ∈ tb := tb_in 942 (by decide +kernel) (by decide +kernel)
theorem se_X2_copyFrom : Cond.selects (yX2_copyFrom).cls yX2_copyFrom yX2_copyFrom ∈ tb := tb_in 943 (by decide +kernel) (by decide +kernel)
theorem e_X9_remember_24 : DC cX9_remember 24 1 25 (.aload_n 0) := ⟨by decide +kernel, rfl⟩
theorem e_X9_remember_25 : DC cX9_remember 25 3 28 (.getfield 368) := ⟨by decide +kernel, rfl⟩
theorem e_X9_remember_28 : DC cX9_remember 28 2 30 (.bipush 20) := ⟨by decide +kernel, rfl⟩
theorem e_X9_remember_30 : DJ cX9_remember 30 46 33 (.if_icmp .ge) := DJ.mk 16 (by decide +kernel) (by decide) rfl
theorem e_X9_remember_33 : DC cX9_remember 33 1 34 (.aload_n 0) := ⟨by decide +kernel, rfl⟩
theorem e_X9_remember_34 : DC cX9_remember 34 1 35 (.dup) := ⟨by decide +kernel, rfl⟩
theorem e_X9_remember_35 : DC cX9_remember 35 3 38 (.getfield 368) := ⟨by decide +kernel, rfl⟩
theorem e_X9_remember_38 : DC cX9_remember 38 1 39 (.iconst 1) := ⟨by decide +kernel, rfl⟩
theorem e_X9_remember_39 : DC cX9_remember 39 1 40 (.iadd) := ⟨by decide +kernel, rfl⟩
theorem e_X9_remember_40 : DC cX9_remember 40 3 43 (.putfield 368) := ⟨by decide +kernel, rfl⟩
theorem fp_X9_368 : FP RX9 368 7 9 false .int := ⟨RX9, TX9, 13, tyX9, rfl, by decide, uw_7, tb_in 339 (by decide +kernel) (by decide +kernel), rfl, rfl, by decide +kernel, tyX9_ok, nmX9⟩
theorem e_X9_remember_43 : DJ cX9_remember 43 59 46 .goto := DJ.mk 16 (by decide +kernel) (by decide) rfl
theorem e_X9_remember_59 : DC cX9_remember 59 1 60 (.return_) := ⟨by decide +kernel, rfl⟩
theorem e_X9_bookIn_19 : DC cX9_bookIn 19 1 20 (.iload_n 3) := ⟨by decide +kernel, rfl⟩
theorem e_X9_bookIn_20 : DC cX9_bookIn 20 1 21 (.iload_n 2) := ⟨by decide +kernel, rfl⟩
theorem e_X9_bookIn_21 : DJ cX9_bookIn 21 37 24 (.if_icmp .ge) := DJ.mk 16 (by decide +kernel) (by decide) rfl
theorem e_X9_bookIn_37 : DC cX9_bookIn 37 1 38 (.aload_n 0) := ⟨by decide +kernel, rfl⟩
theorem e_X9_bookIn_38 : DC cX9_bookIn 38 3 41 (.getfield 20) := ⟨by decide +kernel, rfl⟩
theorem e_X9_bookIn_41 : DC cX9_bookIn 41 1 42 (.areturn) := ⟨by decide +kernel, rfl⟩
theorem e_X9_bookIn_24 : DC cX9_bookIn 24 1 25 (.aload_n 0) := ⟨by decide +kernel, rfl⟩
theorem e_X9_bookIn_25 : DC cX9_bookIn 25 3 28 (.getfield 20) := ⟨by decide +kernel, rfl⟩
theorem e_X9_bookIn_28 : DC cX9_bookIn 28 3 31 (.invokevirtual 100) := ⟨by decide +kernel, rfl⟩
theorem ml_X9_100 : Cond.methodLink RX9 100 yX2_periodGoesBy ∈ tb := tb_in 969 (by decide +kernel) (by decide +kernel)
theorem e_X9_bookIn_31 : DC cX9_bookIn 31 3 34 (.iinc 3 1) := ⟨by decide +kernel, rfl⟩
theorem e_X9_bookIn_34 : DJ cX9_bookIn 34 19 37 .goto := DJ.mk (-15) (by decide +kernel) (by decide) rfl
theorem e_X9_bookIn_0 : DC cX9_bookIn 0 1 1 (.aload_n 0) := ⟨by decide +kernel, rfl⟩
theorem e_X9_bookIn_1 : DC cX9_bookIn 1 3 4 (.getfield 20) := ⟨by decide +kernel, rfl⟩
theorem e_X9_bookIn_4 : DC cX9_bookIn 4 1 5 (.aload_n 0) := ⟨by decide +kernel, rfl⟩
theorem e_X9_bookIn_5 : DC cX9_bookIn 5 3 8 (.getfield 16) := ⟨by decide +kernel, rfl⟩
theorem e_X9_bookIn_8 : DC cX9_bookIn 8 3 11 (.invokevirtual 374) := ⟨by decide +kernel, rfl⟩
theorem e_X9_bookIn_11 : DC cX9_bookIn 11 1 12 (.aload_n 0) := ⟨by decide +kernel, rfl⟩
theorem e_X9_bookIn_12 : DC cX9_bookIn 12 1 13 (.iload_n 1) := ⟨by decide +kernel, rfl⟩
theorem e_X9_bookIn_13 : DC cX9_bookIn 13 3 16 (.invokevirtual 324) := ⟨by decide +kernel, rfl⟩
theorem cb_X9_coming : CB yX9_coming cX9_coming 2 (some .int) 1 := ⟨tb_in 1204 (by decide +kernel) (by decide +kernel), tb_in 1 (by decide +kernel) (by decide +kernel), by decide +kernel⟩
theorem ml_X9_324 : Cond.methodLink RX9 324 yX9_coming ∈ tb := tb_in 1201 (by decide +kernel) (by decide +kernel)
theorem im_X9_coming : Cond.instanceMethod yX9_coming ∈ tb := tb_in 1203 (by decide +kernel) (by decide +kernel)
theorem se_X9_coming : Cond.selects (yX9_coming).cls yX9_coming yX9_coming ∈ tb := tb_sel 7 (by decide +kernel) (by decide +kernel)
theorem e_X9_bookIn_16 : DC cX9_bookIn 16 1 17 (.istore_n 2) := ⟨by decide +kernel, rfl⟩
theorem e_X9_bookIn_17 : DC cX9_bookIn 17 1 18 (.iconst 0) := ⟨by decide +kernel, rfl⟩
theorem e_X9_bookIn_18 : DC cX9_bookIn 18 1 19 (.istore_n 3) := ⟨by decide +kernel, rfl⟩
def LG (V : VX) (τ : Mem) (b c p ps : Nat) : Prop := τ b = some (ob 7 [.ref (b + 1), .int 0, .ref (b + 2), .ref (b + 65), .ref (b + 128), .ref (b + 130), .int 0, .ref (b + 193), .int 0, .int (nI c), .ref (b + 194), .ref (b + 195), .ref (b + 196)]) ∧ τ (b + 193) = some (aR 6 V 20 (pfB b)) ∧ τ (b + 194) = some (ob 0 [.long 0, .long 0]) ∧ τ (b + 195) = some (ob 0 [.long 0, .long 0]) ∧ τ (b + 196) = some (ob 0 [.long 0, .long 0]) ∧ EB V τ (b + 2) p ∧ EB V τ (b + 65) ps ∧ ∀ j, j < 20 → ∃ pj, EB V τ (b + 197 + 63 * j) pj
theorem LLz.lg {V : VX} {τ : Mem} {b : Nat} (h : LLz V τ b) : LG V τ b 0 0 0 := by
  obtain ⟨a0, a1, a2, a3, a4, a5, a6, a7, b0, b1, b2, b3⟩ := h
  exact ⟨a0, a4, a5, a6, a7, b0.eb, b1.eb, fun j hj => ⟨0, (b3 j hj).eb⟩⟩
theorem max0 {k : Nat} (h : k < 2 ^ 31) : (if (0 : Int32) < nI k then nI k else 0) = nI k := by
  by_cases h0 : k = 0
  · subst h0; rfl
  · exact if_pos (show (0 : Int32) < nI k from nI_lt (a := 0) (by omega) h)
set_option maxRecDepth 20000 in
theorem k_coming0 (l : Launch) (V : VX) (N : Nat) (σ : Mem) (b c p ps : Nat) (k : Nat) (hL : LG V σ b c p ps) (hk : p + k ≤ 99) : Ct l V yX9_coming cX9_coming 2 (some .int) 1 0 0 N σ [.ref b, .int (nI k)] (fun r τ => r = some (.int (nI k)) ∧ τ = σ) := by
  refine Ct.of (by decide) (Nat.le_of_ble_eq_true rfl) [(0, .ref b), (1, .int (nI k))] rfl (fun X hX F hQ => ?_)
  obtain ⟨o45, pr45, f1_45, f2_45, f3_45, e1_45, e2_45, ps_45⟩ := hL
  refine m_iconst F (v := 0) (by decide) e_X9_coming_0 ?_
  refine m_iload_n F rfl e_X9_coming_1 ?_
  refine m_bipush F (v := 99) (by decide) e_X9_coming_2 ?_
  refine m_aload_n F rfl e_X9_coming_4 ?_
  refine m_get F e_X9_coming_5 fl_X9_16 o45 rfl ?_
  refine m_get F e_X9_coming_8 fl_X9_94 e1_45.head rfl ?_
  refine m_isub F e_X9_coming_11 ?_
  refine Wm.topE (w := nI (99 - p)) (pk_sub (a := 99) (b := p) (by omega)) ?_
  refine m_min F e_X9_coming_12 ml_X9_386 sm_min ini_math co_min (Nat.le_of_ble_eq_true rfl) (Nat.le_of_ble_eq_true rfl) (Nat.le_of_ble_eq_true rfl) (Nat.le_of_ble_eq_true rfl) ?_
  refine Wm.topE (w := nI k) (if_neg (nI_nlt (by omega) (by omega))) ?_
  refine m_max F e_X9_coming_15 ml_X9_392 sm_max ini_math co_max (Nat.le_of_ble_eq_true rfl) (Nat.le_of_ble_eq_true rfl) (Nat.le_of_ble_eq_true rfl) (Nat.le_of_ble_eq_true rfl) ?_
  refine Wm.topE (w := nI k) (max0 (by omega)) ?_
  exact m_iret F hQ e_X9_coming_18 (⟨rfl, rfl⟩)
set_option maxRecDepth 20000 in
theorem k_leaseAt0 (l : Launch) (V : VX) (N : Nat) (σ : Mem) (b c p ps : Nat) (x : Int32) (hL : LG V σ b c p ps)  : Ct l V yX9_leaseAt cX9_leaseAt 2 (some (.object "LeaseLedger$Lease")) 0 0 0 N σ [.ref b, .int x] (fun r τ => r = some .null ∧ τ = σ) := by
  refine Ct.of (by decide) (Nat.le_of_ble_eq_true rfl) [(0, .ref b), (1, .int x)] rfl (fun X hX F hQ => ?_)
  obtain ⟨o46, pr46, f1_46, f2_46, f3_46, e1_46, e2_46, ps_46⟩ := hL
  refine m_iload_n F rfl e_X9_leaseAt_0 ?_
  refine m_if_lt F e_X9_leaseAt_1 (fun q1 => ?_) (fun q1 => ?_)
  · refine m_null F e_X9_leaseAt_27 ?_
    exact m_aret F hQ e_X9_leaseAt_28 (Or.inl rfl) (⟨rfl, rfl⟩)
  · refine m_iload_n F rfl e_X9_leaseAt_4 ?_
    refine m_aload_n F rfl e_X9_leaseAt_5 ?_
    refine m_get F e_X9_leaseAt_6 fl_X9_16 o46 rfl ?_
    refine m_get F e_X9_leaseAt_9 fl_X9_358 e1_46.head rfl ?_
    refine m_icmp_ge F e_X9_leaseAt_12 (fun q12 => ?_) (fun q12 => absurd q12 (fun n => n (Int32.not_lt.mp q1)))
    refine m_null F e_X9_leaseAt_27 ?_
    exact m_aret F hQ e_X9_leaseAt_28 (Or.inl rfl) (⟨rfl, rfl⟩)
set_option maxRecDepth 20000 in
theorem k_runningAt0 (l : Launch) (V : VX) (N : Nat) (σ : Mem) (b c p ps : Nat) (x : Int32) (hL : LG V σ b c p ps)  : Ct l V yX9_runningAt cX9_runningAt 3 (some (.object "LeaseLedger$Lease")) 1 0 0 N σ [.ref b, .int x] (fun r τ => r = some .null ∧ τ = σ) := by
  refine Ct.of (by decide) (Nat.le_of_ble_eq_true rfl) [(0, .ref b), (1, .int x)] rfl (fun X hX F hQ => ?_)
  obtain ⟨o47, pr47, f1_47, f2_47, f3_47, e1_47, e2_47, ps_47⟩ := hL
  refine m_aload_n F rfl e_X9_runningAt_0 ?_
  refine m_iload_n F rfl e_X9_runningAt_1 ?_
  refine m_callV F e_X9_runningAt_2 (k_leaseAt0 (x_l X) V _ _ b c p ps x ⟨o47, pr47, f1_47, f2_47, f3_47, e1_47, e2_47, ps_47⟩) cb_X9_leaseAt ml_X9_103 im_X9_leaseAt se_X9_leaseAt o47 rfl rfl (rest := []) rfl (Nat.le_of_ble_eq_true rfl) ⟨Nat.le_of_ble_eq_true rfl, Nat.le_of_ble_eq_true rfl⟩ ⟨Nat.le_of_ble_eq_true rfl, Nat.le_of_ble_eq_true rfl⟩ (k' := 0) (z' := 0) (N' := N) rfl rfl rfl (fun r τ hp => ?_)
  obtain ⟨rfl, rfl⟩ := hp
  refine m_astore_nN F (lv' := [(2, .null), (0, .ref b), (1, .int x)]) e_X9_runningAt_5 (by decide) rfl ?_
  refine m_aload_nN F rfl e_X9_runningAt_6 ?_
  refine m_ifnullN F e_X9_runningAt_7 ?_
  refine m_null F e_X9_runningAt_22 ?_
  exact m_aret F hQ e_X9_runningAt_23 (Or.inl rfl) (⟨rfl, rfl⟩)
set_option maxRecDepth 20000 in
theorem k_remember0 (l : Launch) (V : VX) (N : Nat) (σ : Mem) (b c p ps : Nat)  (hL : LG V σ b c p ps) (hc : c < 20) : Ct l V yX9_remember cX9_remember 1 none 3 0 0 N σ [.ref b] (fun r τ => r = none ∧ LG V τ b (c + 1) p ps ∧ ∀ q : Nat, b + 1457 ≤ q → τ q = σ q) := by
  refine Ct.of (by decide) (Nat.le_of_ble_eq_true rfl) [(0, .ref b)] rfl (fun X hX F hQ => ?_)
  obtain ⟨o48, pr48, f1_48, f2_48, f3_48, e1_48, e2_48, ps_48⟩ := hL
  refine m_aload_n F rfl e_X9_remember_0 ?_
  refine m_get F e_X9_remember_1 fl_X9_35 o48 rfl ?_
  refine m_aload_n F rfl e_X9_remember_4 ?_
  refine m_get F e_X9_remember_5 fl_X9_371 o48 rfl ?_
  refine m_aload_n F rfl e_X9_remember_8 ?_
  refine m_get F e_X9_remember_9 fl_X9_368 o48 rfl ?_
  refine m_iadd F e_X9_remember_12 ?_
  refine Wm.topE (w := nI (0 + c)) (nI_add 0 c) ?_
  refine m_bipush F (v := 20) (by decide) e_X9_remember_13 ?_
  refine m_irem F (by decide) e_X9_remember_15 ?_
  refine Wm.topE (w := nI c) (by rw [Nat.zero_add]; exact (pk_rem (a := c) (d := 20) (by omega) (by omega) (by omega)).trans (by rw [Nat.mod_eq_of_lt (by omega)])) ?_
  refine m_aald F (j := c) e_X9_remember_16 pr48 rfl (nI_clamp (by omega)) (vp_in_nI (by omega) (by omega)) ?_
  obtain ⟨px, hx9⟩ := ps_48 c (by omega)
  rw [show pfB b c = some (b + 197 + 63 * c) from if_pos (by omega)]
  refine m_aload_n F rfl e_X9_remember_17 ?_
  refine m_get F e_X9_remember_18 fl_X9_16 o48 rfl ?_
  refine m_callV F e_X9_remember_21 (k_Bcopy0 (x_l X) V _ _ (b + 197 + 63 * c) px (b + 2) p hx9 e1_48 (by omega)) cb_X2_copyFrom ml_X9_374 im_X2_copyFrom se_X2_copyFrom hx9.head rfl rfl (rest := []) rfl (Nat.le_of_ble_eq_true rfl) ⟨Nat.le_of_ble_eq_true rfl, Nat.le_of_ble_eq_true rfl⟩ ⟨Nat.le_of_ble_eq_true rfl, Nat.le_of_ble_eq_true rfl⟩ (k' := 0) (z' := 0) (N' := N) rfl rfl rfl (fun r τ49 hp => ?_)
  obtain ⟨rfl, eb50, hf51⟩ := hp
  have g52 : τ49 b = some (ob 7 [.ref (b + 1), .int 0, .ref (b + 2), .ref (b + 65), .ref (b + 128), .ref (b + 130), .int 0, .ref (b + 193), .int 0, .int (nI c), .ref (b + 194), .ref (b + 195), .ref (b + 196)]) := (hf51 b (by omega)).trans o48
  have g53 : τ49 (b + 193) = some (aR 6 V 20 (pfB b)) := (hf51 (b + 193) (by omega)).trans pr48
  have g54 : τ49 (b + 194) = some (ob 0 [.long 0, .long 0]) := (hf51 (b + 194) (by omega)).trans f1_48
  have g55 : τ49 (b + 195) = some (ob 0 [.long 0, .long 0]) := (hf51 (b + 195) (by omega)).trans f2_48
  have g56 : τ49 (b + 196) = some (ob 0 [.long 0, .long 0]) := (hf51 (b + 196) (by omega)).trans f3_48
  have eb57 : EB V τ49 (b + 2) p := e1_48.keep (fun x g1 g2 => (hf51 x (by omega)).trans rfl)
  have eb58 : EB V τ49 (b + 65) ps := e2_48.keep (fun x g1 g2 => (hf51 x (by omega)).trans rfl)
  have pst59 : ∀ j, j < 20 → ∃ pj, EB V τ49 (b + 197 + 63 * j) pj := fun j hj => (Nat.decEq j c).byCases (fun e9 => ⟨_, e9 ▸ eb50⟩) (fun n9 => (ps_48 j hj).elim (fun pj h9 => ⟨pj, h9.keep (fun x g1 g2 => (hf51 x (by omega)).trans rfl)⟩))
  have fr60 : ∀ q : Nat, b + 1457 ≤ q → τ49 q = σ q := fun q h1 => (hf51 q (by omega)).trans rfl
  refine m_aload_n F rfl e_X9_remember_24 ?_
  refine m_get F e_X9_remember_25 fl_X9_368 g52 rfl ?_
  refine m_bipush F (v := 20) (by decide) e_X9_remember_28 ?_
  refine m_icmp_ge F e_X9_remember_30 (fun q30 => ?_) (fun q30 => ?_)
  · have c30 : c ≥ 20 := (nI_leI (a := 20) (b := c) (by omega) (by omega)).mp q30
    exfalso; omega
  · have c30 : c < 20 := by have hh := mt (nI_leI (a := 20) (b := c) (by omega) (by omega)).mpr q30; omega
    refine m_aload_n F rfl e_X9_remember_33 ?_
    refine m_dup F rfl e_X9_remember_34 ?_
    refine m_get F e_X9_remember_35 fl_X9_368 g52 rfl ?_
    refine m_iconst F (v := 1) (by decide) e_X9_remember_38 ?_
    refine m_iadd F e_X9_remember_39 ?_
    refine Wm.topE (w := nI (c + 1)) (nI_add c 1) ?_
    refine m_put F e_X9_remember_40 fp_X9_368 g52 rfl rfl (Nat.le_of_ble_eq_true rfl) (fs' := [.ref (b + 1), .int 0, .ref (b + 2), .ref (b + 65), .ref (b + 128), .ref (b + 130), .int 0, .ref (b + 193), .int 0, .int (nI (c + 1)), .ref (b + 194), .ref (b + 195), .ref (b + 196)]) rfl rfl ?_
    refine m_goto F e_X9_remember_43 ?_
    exact m_vret F hQ e_X9_remember_59 (⟨rfl, ⟨ru_eq, (ru_ne (by omega) g53), (ru_ne (by omega) g54), (ru_ne (by omega) g55), (ru_ne (by omega) g56), eb57.keep (fun x g1 g2 => (ru_ne (by omega) rfl)), eb58.keep (fun x g1 g2 => (ru_ne (by omega) rfl)), (fun j hj => (pst59 j hj).elim (fun pj h9 => ⟨pj, h9.keep (fun x g1 g2 => (ru_ne (by omega) rfl))⟩))⟩, fun q h1 => (ru_ne (by omega) (fr60 q h1))⟩)
theorem lp_bookIn0 {V : VX} {X : MX} {N : Nat} {σ : Mem} {Post : Option Value → Mem → Prop} (F : Fx V X yX9_bookIn cX9_bookIn 4 (some (.object "LeaseLedger$Book")) (rmd 3 0 0)) (hQ : Rt V X 0 0 N Post) {b c p k : Nat} (hk : p + k ≤ 99) (hp : ∀ τ : Mem, LG V τ b c p (p + k) → (∀ q : Nat, b + 1457 ≤ q → τ q = σ q) → Post (some (.ref (b + 65))) τ) : ∀ (n i : Nat) (τ : Mem), i ≤ k → k - i < n → LG V τ b c p (p + i) → (∀ q : Nat, b + 1457 ≤ q → τ q = σ q) → Wm V X 4 N τ 0 0 19 [(3, .int (nI i)), (0, .ref b), (1, .int (nI k)), (2, .int (nI k))] [] := by
  intro n
  induction n with
  | zero => intro i τ h1 h2; exact absurd h2 (by omega)
  | succ n ih =>
    intro i τ h1 h2 hL hfr
    obtain ⟨o61, pr61, f1_61, f2_61, f3_61, e1_61, e2_61, ps_61⟩ := hL
    refine m_iload_n F rfl e_X9_bookIn_19 ?_
    refine m_iload_n F rfl e_X9_bookIn_20 ?_
    refine m_icmp_ge F e_X9_bookIn_21 (fun q21 => ?_) (fun q21 => ?_)
    · have c21 : i ≥ k := (nI_leI (a := k) (b := i) (by omega) (by omega)).mp q21
      have hi9 : i = k := by omega
      subst hi9
      refine m_aload_n F rfl e_X9_bookIn_37 ?_
      refine m_get F e_X9_bookIn_38 fl_X9_20 o61 rfl ?_
      exact m_aret F hQ e_X9_bookIn_41 (Or.inr ⟨_, rfl⟩) (hp _ ⟨o61, pr61, f1_61, f2_61, f3_61, e1_61, e2_61, ps_61⟩ (fun q h1 => (hfr q h1)))
    · have c21 : i < k := by have hh := mt (nI_leI (a := k) (b := i) (by omega) (by omega)).mpr q21; omega
      refine m_aload_n F rfl e_X9_bookIn_24 ?_
      refine m_get F e_X9_bookIn_25 fl_X9_20 o61 rfl ?_
      refine m_callV F e_X9_bookIn_28 (k_period0 (x_l X) V _ _ (b + 65) (p + i) e2_61 (by omega)) cb_X2_periodGoesBy ml_X9_100 im_X2_periodGoesBy se_X2_periodGoesBy e2_61.head rfl rfl (rest := []) rfl (Nat.le_of_ble_eq_true rfl) ⟨Nat.le_of_ble_eq_true rfl, Nat.le_of_ble_eq_true rfl⟩ ⟨Nat.le_of_ble_eq_true rfl, Nat.le_of_ble_eq_true rfl⟩ (k' := 0) (z' := 0) (N' := N) rfl rfl rfl (fun r τ62 hp => ?_)
      obtain ⟨rfl, eb63, hf64⟩ := hp
      have g65 : τ62 b = some (ob 7 [.ref (b + 1), .int 0, .ref (b + 2), .ref (b + 65), .ref (b + 128), .ref (b + 130), .int 0, .ref (b + 193), .int 0, .int (nI c), .ref (b + 194), .ref (b + 195), .ref (b + 196)]) := (hf64 b (by omega)).trans o61
      have g66 : τ62 (b + 193) = some (aR 6 V 20 (pfB b)) := (hf64 (b + 193) (by omega)).trans pr61
      have g67 : τ62 (b + 194) = some (ob 0 [.long 0, .long 0]) := (hf64 (b + 194) (by omega)).trans f1_61
      have g68 : τ62 (b + 195) = some (ob 0 [.long 0, .long 0]) := (hf64 (b + 195) (by omega)).trans f2_61
      have g69 : τ62 (b + 196) = some (ob 0 [.long 0, .long 0]) := (hf64 (b + 196) (by omega)).trans f3_61
      have eb70 : EB V τ62 (b + 2) p := e1_61.keep (fun x g1 g2 => (hf64 x (by omega)).trans rfl)
      have pst71 : ∀ j, j < 20 → ∃ pj, EB V τ62 (b + 197 + 63 * j) pj := fun j hj => (ps_61 j hj).elim (fun pj h9 => ⟨pj, h9.keep (fun x g1 g2 => (hf64 x (by omega)).trans rfl)⟩)
      have fr72 : ∀ q : Nat, b + 1457 ≤ q → τ62 q = σ q := fun q h1 => (hf64 q (by omega)).trans (hfr q h1)
      refine m_iinc F (v := nI (i + 1)) (lv' := [(3, .int (nI (i + 1))), (0, .ref b), (1, .int (nI k)), (2, .int (nI k))]) e_X9_bookIn_31 rfl (nI_add i 1) (by decide) rfl ?_
      refine m_goto F e_X9_bookIn_34 ?_
      exact ih (i + 1) _ (by omega) (by omega) ⟨g65, g66, g67, g68, g69, eb70, eb63, pst71⟩ (fun q h1 => (fr72 q h1))
set_option maxRecDepth 20000 in
theorem k_bookIn0 (l : Launch) (V : VX) (N : Nat) (σ : Mem) (b c p ps : Nat) (k : Nat) (hL : LG V σ b c p ps) (hk : p + k ≤ 99) : Ct l V yX9_bookIn cX9_bookIn 4 (some (.object "LeaseLedger$Book")) 3 0 0 N σ [.ref b, .int (nI k)] (fun r τ => r = some (.ref (b + 65)) ∧ LG V τ b c p (p + k) ∧ ∀ q : Nat, b + 1457 ≤ q → τ q = σ q) := by
  refine Ct.of (by decide) (Nat.le_of_ble_eq_true rfl) [(0, .ref b), (1, .int (nI k))] rfl (fun X hX F hQ => ?_)
  obtain ⟨o73, pr73, f1_73, f2_73, f3_73, e1_73, e2_73, ps_73⟩ := hL
  refine m_aload_n F rfl e_X9_bookIn_0 ?_
  refine m_get F e_X9_bookIn_1 fl_X9_20 o73 rfl ?_
  refine m_aload_n F rfl e_X9_bookIn_4 ?_
  refine m_get F e_X9_bookIn_5 fl_X9_16 o73 rfl ?_
  refine m_callV F e_X9_bookIn_8 (k_Bcopy0 (x_l X) V _ _ (b + 65) ps (b + 2) p e2_73 e1_73 (by omega)) cb_X2_copyFrom ml_X9_374 im_X2_copyFrom se_X2_copyFrom e2_73.head rfl rfl (rest := []) rfl (Nat.le_of_ble_eq_true rfl) ⟨Nat.le_of_ble_eq_true rfl, Nat.le_of_ble_eq_true rfl⟩ ⟨Nat.le_of_ble_eq_true rfl, Nat.le_of_ble_eq_true rfl⟩ (k' := 0) (z' := 0) (N' := N) rfl rfl rfl (fun r τ74 hp => ?_)
  obtain ⟨rfl, eb75, hf76⟩ := hp
  have g77 : τ74 b = some (ob 7 [.ref (b + 1), .int 0, .ref (b + 2), .ref (b + 65), .ref (b + 128), .ref (b + 130), .int 0, .ref (b + 193), .int 0, .int (nI c), .ref (b + 194), .ref (b + 195), .ref (b + 196)]) := (hf76 b (by omega)).trans o73
  have g78 : τ74 (b + 193) = some (aR 6 V 20 (pfB b)) := (hf76 (b + 193) (by omega)).trans pr73
  have g79 : τ74 (b + 194) = some (ob 0 [.long 0, .long 0]) := (hf76 (b + 194) (by omega)).trans f1_73
  have g80 : τ74 (b + 195) = some (ob 0 [.long 0, .long 0]) := (hf76 (b + 195) (by omega)).trans f2_73
  have g81 : τ74 (b + 196) = some (ob 0 [.long 0, .long 0]) := (hf76 (b + 196) (by omega)).trans f3_73
  have eb82 : EB V τ74 (b + 2) p := e1_73.keep (fun x g1 g2 => (hf76 x (by omega)).trans rfl)
  have pst83 : ∀ j, j < 20 → ∃ pj, EB V τ74 (b + 197 + 63 * j) pj := fun j hj => (ps_73 j hj).elim (fun pj h9 => ⟨pj, h9.keep (fun x g1 g2 => (hf76 x (by omega)).trans rfl)⟩)
  have fr84 : ∀ q : Nat, b + 1457 ≤ q → τ74 q = σ q := fun q h1 => (hf76 q (by omega)).trans rfl
  refine m_aload_n F rfl e_X9_bookIn_11 ?_
  refine m_iload_n F rfl e_X9_bookIn_12 ?_
  refine m_callV F e_X9_bookIn_13 (k_coming0 (x_l X) V _ _ b c p p k ⟨g77, g78, g79, g80, g81, eb82, eb75, pst83⟩ (by omega)) cb_X9_coming ml_X9_324 im_X9_coming se_X9_coming g77 rfl rfl (rest := []) rfl (Nat.le_of_ble_eq_true rfl) ⟨Nat.le_of_ble_eq_true rfl, Nat.le_of_ble_eq_true rfl⟩ ⟨Nat.le_of_ble_eq_true rfl, Nat.le_of_ble_eq_true rfl⟩ (k' := 0) (z' := 0) (N' := N) rfl rfl rfl (fun r τ hp => ?_)
  obtain ⟨rfl, rfl⟩ := hp
  refine m_istore_n F (lv' := [(2, .int (nI k)), (0, .ref b), (1, .int (nI k))]) e_X9_bookIn_16 (by decide) rfl ?_
  refine m_iconst F (v := 0) (by decide) e_X9_bookIn_17 ?_
  refine m_istore_n F (lv' := [(3, .int 0), (2, .int (nI k)), (0, .ref b), (1, .int (nI k))]) e_X9_bookIn_18 (by decide) rfl ?_
  refine Wm.lvsub (lv' := [(3, .int 0), (0, .ref b), (1, .int (nI k)), (2, .int (nI k))]) ?_ [0, 2, 3, 1] rfl
  exact lp_bookIn0 F hQ hk (fun τ h1 h2 => ⟨rfl, h1, h2⟩) (k + 1) 0 _ (by omega) (by omega) ⟨g77, g78, g79, g80, g81, eb82, eb75, pst83⟩ (fun q h1 => (fr84 q h1))
end
