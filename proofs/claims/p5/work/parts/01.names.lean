-- ===== PART A: goes FIRST, ahead of the names: the tables' words, and 'selects' of the private methods out of them =====
/-- a private method of a class that the tables say can be made, by its rows of tables_1 -/
def lw_okq (q : MethodName × Nat) : Prop := (q.1.cls ≠ "java/lang/invoke/MethodHandle" ∧ q.1.cls ≠ "java/lang/invoke/VarHandle") ∧ Cond.instantiable q.1.cls q.2 ∈ tables_1 ∧ Cond.privateMethod q.1 ∈ tables_1 ∧ Cond.instanceMethod q.1 ∈ tables_1
theorem lw_p0 : lw_okq (⟨"LeaseLedger", "putOnTape", "(I)V"⟩, 13) := ⟨⟨by decide +kernel, by decide +kernel⟩, List.mem_of_getElem? (i := 30) (by decide +kernel), List.mem_of_getElem? (i := 375) (by decide +kernel), List.mem_of_getElem? (i := 376) (by decide +kernel)⟩
theorem lw_p1 : lw_okq (⟨"java/lang/Throwable", "fillInStackTrace", "(I)Ljava/lang/Throwable;"⟩, 6) := ⟨⟨by decide +kernel, by decide +kernel⟩, List.mem_of_getElem? (i := 542) (by decide +kernel), List.mem_of_getElem? (i := 540) (by decide +kernel), List.mem_of_getElem? (i := 541) (by decide +kernel)⟩
theorem lw_p2 : lw_okq (⟨"LeaseLedger", "forgetPast", "()V"⟩, 13) := ⟨⟨by decide +kernel, by decide +kernel⟩, List.mem_of_getElem? (i := 30) (by decide +kernel), List.mem_of_getElem? (i := 921) (by decide +kernel), List.mem_of_getElem? (i := 922) (by decide +kernel)⟩
theorem lw_p3 : lw_okq (⟨"LeaseLedger", "remember", "()V"⟩, 13) := ⟨⟨by decide +kernel, by decide +kernel⟩, List.mem_of_getElem? (i := 30) (by decide +kernel), List.mem_of_getElem? (i := 938) (by decide +kernel), List.mem_of_getElem? (i := 939) (by decide +kernel)⟩
theorem lw_p4 : lw_okq (⟨"LeaseLedger", "leaseAt", "(I)LLeaseLedger$Lease;"⟩, 13) := ⟨⟨by decide +kernel, by decide +kernel⟩, List.mem_of_getElem? (i := 30) (by decide +kernel), List.mem_of_getElem? (i := 1049) (by decide +kernel), List.mem_of_getElem? (i := 1050) (by decide +kernel)⟩
theorem lw_p5 : lw_okq (⟨"LeaseLedger", "runningAt", "(I)LLeaseLedger$Lease;"⟩, 13) := ⟨⟨by decide +kernel, by decide +kernel⟩, List.mem_of_getElem? (i := 30) (by decide +kernel), List.mem_of_getElem? (i := 1097) (by decide +kernel), List.mem_of_getElem? (i := 1098) (by decide +kernel)⟩
theorem lw_p6 : lw_okq (⟨"LeaseLedger", "bookIn", "(I)LLeaseLedger$Book;"⟩, 13) := ⟨⟨by decide +kernel, by decide +kernel⟩, List.mem_of_getElem? (i := 30) (by decide +kernel), List.mem_of_getElem? (i := 1198) (by decide +kernel), List.mem_of_getElem? (i := 1199) (by decide +kernel)⟩
theorem lw_p7 : lw_okq (⟨"LeaseLedger", "coming", "(I)I"⟩, 13) := ⟨⟨by decide +kernel, by decide +kernel⟩, List.mem_of_getElem? (i := 30) (by decide +kernel), List.mem_of_getElem? (i := 1202) (by decide +kernel), List.mem_of_getElem? (i := 1203) (by decide +kernel)⟩
theorem lw_p8 : lw_okq (⟨"LeaseLedgerModel", "freshText", "()V"⟩, 37) := ⟨⟨by decide +kernel, by decide +kernel⟩, List.mem_of_getElem? (i := 1411) (by decide +kernel), List.mem_of_getElem? (i := 1417) (by decide +kernel), List.mem_of_getElem? (i := 1418) (by decide +kernel)⟩
theorem lw_p9 : lw_okq (⟨"LeaseLedgerModel", "reads", "(II)V"⟩, 37) := ⟨⟨by decide +kernel, by decide +kernel⟩, List.mem_of_getElem? (i := 1411) (by decide +kernel), List.mem_of_getElem? (i := 1421) (by decide +kernel), List.mem_of_getElem? (i := 1422) (by decide +kernel)⟩
theorem lw_p10 : lw_okq (⟨"LeaseLedgerModel", "takeText", "()V"⟩, 37) := ⟨⟨by decide +kernel, by decide +kernel⟩, List.mem_of_getElem? (i := 1411) (by decide +kernel), List.mem_of_getElem? (i := 1425) (by decide +kernel), List.mem_of_getElem? (i := 1426) (by decide +kernel)⟩
theorem lw_p11 : lw_okq (⟨"LeaseLedgerModel", "reading", "(I)I"⟩, 37) := ⟨⟨by decide +kernel, by decide +kernel⟩, List.mem_of_getElem? (i := 1411) (by decide +kernel), List.mem_of_getElem? (i := 1429) (by decide +kernel), List.mem_of_getElem? (i := 1430) (by decide +kernel)⟩
theorem lw_p12 : lw_okq (⟨"LeaseLedgerModel", "begins", "()V"⟩, 37) := ⟨⟨by decide +kernel, by decide +kernel⟩, List.mem_of_getElem? (i := 1411) (by decide +kernel), List.mem_of_getElem? (i := 1433) (by decide +kernel), List.mem_of_getElem? (i := 1434) (by decide +kernel)⟩
theorem lw_p13 : lw_okq (⟨"LeaseLedgerModel", "leases", "()I"⟩, 37) := ⟨⟨by decide +kernel, by decide +kernel⟩, List.mem_of_getElem? (i := 1411) (by decide +kernel), List.mem_of_getElem? (i := 1438) (by decide +kernel), List.mem_of_getElem? (i := 1439) (by decide +kernel)⟩
theorem lw_p14 : lw_okq (⟨"LeaseLedgerModel", "rateFor", "(IIJ)I"⟩, 37) := ⟨⟨by decide +kernel, by decide +kernel⟩, List.mem_of_getElem? (i := 1411) (by decide +kernel), List.mem_of_getElem? (i := 1442) (by decide +kernel), List.mem_of_getElem? (i := 1443) (by decide +kernel)⟩
theorem lw_p15 : lw_okq (⟨"LeaseLedgerModel", "worthBy", "(IIJJ)J"⟩, 37) := ⟨⟨by decide +kernel, by decide +kernel⟩, List.mem_of_getElem? (i := 1411) (by decide +kernel), List.mem_of_getElem? (i := 1447) (by decide +kernel), List.mem_of_getElem? (i := 1448) (by decide +kernel)⟩
def lw_privs_1 : List (MethodName × Nat) := [(⟨"LeaseLedger", "putOnTape", "(I)V"⟩, 13), (⟨"java/lang/Throwable", "fillInStackTrace", "(I)Ljava/lang/Throwable;"⟩, 6), (⟨"LeaseLedger", "forgetPast", "()V"⟩, 13), (⟨"LeaseLedger", "remember", "()V"⟩, 13), (⟨"LeaseLedger", "leaseAt", "(I)LLeaseLedger$Lease;"⟩, 13), (⟨"LeaseLedger", "runningAt", "(I)LLeaseLedger$Lease;"⟩, 13), (⟨"LeaseLedger", "bookIn", "(I)LLeaseLedger$Book;"⟩, 13), (⟨"LeaseLedger", "coming", "(I)I"⟩, 13), (⟨"LeaseLedgerModel", "freshText", "()V"⟩, 37), (⟨"LeaseLedgerModel", "reads", "(II)V"⟩, 37), (⟨"LeaseLedgerModel", "takeText", "()V"⟩, 37), (⟨"LeaseLedgerModel", "reading", "(I)I"⟩, 37), (⟨"LeaseLedgerModel", "begins", "()V"⟩, 37), (⟨"LeaseLedgerModel", "leases", "()I"⟩, 37), (⟨"LeaseLedgerModel", "rateFor", "(IIJ)I"⟩, 37), (⟨"LeaseLedgerModel", "worthBy", "(IIJJ)J"⟩, 37)]
theorem lw_r1 : ∀ q ∈ lw_privs_1, lw_okq q := List.forall_mem_cons.mpr ⟨lw_p0, List.forall_mem_cons.mpr ⟨lw_p1, List.forall_mem_cons.mpr ⟨lw_p2, List.forall_mem_cons.mpr ⟨lw_p3, List.forall_mem_cons.mpr ⟨lw_p4, List.forall_mem_cons.mpr ⟨lw_p5, List.forall_mem_cons.mpr ⟨lw_p6, List.forall_mem_cons.mpr ⟨lw_p7, List.forall_mem_cons.mpr ⟨lw_p8, List.forall_mem_cons.mpr ⟨lw_p9, List.forall_mem_cons.mpr ⟨lw_p10, List.forall_mem_cons.mpr ⟨lw_p11, List.forall_mem_cons.mpr ⟨lw_p12, List.forall_mem_cons.mpr ⟨lw_p13, List.forall_mem_cons.mpr ⟨lw_p14, List.forall_mem_cons.mpr ⟨lw_p15, fun _ h => absurd h List.not_mem_nil⟩⟩⟩⟩⟩⟩⟩⟩⟩⟩⟩⟩⟩⟩⟩⟩
theorem lw_p16 : lw_okq (⟨"LeaseLedgerModel", "isEarly", "(I)Z"⟩, 37) := ⟨⟨by decide +kernel, by decide +kernel⟩, List.mem_of_getElem? (i := 1411) (by decide +kernel), List.mem_of_getElem? (i := 1451) (by decide +kernel), List.mem_of_getElem? (i := 1452) (by decide +kernel)⟩
theorem lw_p17 : lw_okq (⟨"LeaseLedgerModel", "readText", "(I)V"⟩, 37) := ⟨⟨by decide +kernel, by decide +kernel⟩, List.mem_of_getElem? (i := 1411) (by decide +kernel), List.mem_of_getElem? (i := 1582) (by decide +kernel), List.mem_of_getElem? (i := 1583) (by decide +kernel)⟩
theorem lw_p18 : lw_okq (⟨"LeaseLedgerModel", "token", "()V"⟩, 37) := ⟨⟨by decide +kernel, by decide +kernel⟩, List.mem_of_getElem? (i := 1411) (by decide +kernel), List.mem_of_getElem? (i := 1586) (by decide +kernel), List.mem_of_getElem? (i := 1587) (by decide +kernel)⟩
theorem lw_p19 : lw_okq (⟨"LeaseLedgerModel", "here", "()I"⟩, 37) := ⟨⟨by decide +kernel, by decide +kernel⟩, List.mem_of_getElem? (i := 1411) (by decide +kernel), List.mem_of_getElem? (i := 1590) (by decide +kernel), List.mem_of_getElem? (i := 1591) (by decide +kernel)⟩
theorem lw_p20 : lw_okq (⟨"LeaseLedgerModel", "wordHere", "()I"⟩, 37) := ⟨⟨by decide +kernel, by decide +kernel⟩, List.mem_of_getElem? (i := 1411) (by decide +kernel), List.mem_of_getElem? (i := 1597) (by decide +kernel), List.mem_of_getElem? (i := 1598) (by decide +kernel)⟩
theorem lw_p21 : lw_okq (⟨"LeaseLedgerModel", "nameHere", "()V"⟩, 37) := ⟨⟨by decide +kernel, by decide +kernel⟩, List.mem_of_getElem? (i := 1411) (by decide +kernel), List.mem_of_getElem? (i := 1627) (by decide +kernel), List.mem_of_getElem? (i := 1628) (by decide +kernel)⟩
theorem lw_p22 : lw_okq (⟨"LeaseLedgerModel", "readLine", "()V"⟩, 37) := ⟨⟨by decide +kernel, by decide +kernel⟩, List.mem_of_getElem? (i := 1411) (by decide +kernel), List.mem_of_getElem? (i := 1635) (by decide +kernel), List.mem_of_getElem? (i := 1636) (by decide +kernel)⟩
theorem lw_p23 : lw_okq (⟨"LeaseLedgerModel", "wrong", "(I)V"⟩, 37) := ⟨⟨by decide +kernel, by decide +kernel⟩, List.mem_of_getElem? (i := 1411) (by decide +kernel), List.mem_of_getElem? (i := 1639) (by decide +kernel), List.mem_of_getElem? (i := 1640) (by decide +kernel)⟩
theorem lw_p24 : lw_okq (⟨"LeaseLedgerModel", "readLease", "()V"⟩, 37) := ⟨⟨by decide +kernel, by decide +kernel⟩, List.mem_of_getElem? (i := 1411) (by decide +kernel), List.mem_of_getElem? (i := 1643) (by decide +kernel), List.mem_of_getElem? (i := 1644) (by decide +kernel)⟩
theorem lw_p25 : lw_okq (⟨"LeaseLedgerModel", "goOn", "()V"⟩, 37) := ⟨⟨by decide +kernel, by decide +kernel⟩, List.mem_of_getElem? (i := 1411) (by decide +kernel), List.mem_of_getElem? (i := 1647) (by decide +kernel), List.mem_of_getElem? (i := 1648) (by decide +kernel)⟩
theorem lw_p26 : lw_okq (⟨"LeaseLedgerModel", "namedAt", "(III)I"⟩, 37) := ⟨⟨by decide +kernel, by decide +kernel⟩, List.mem_of_getElem? (i := 1411) (by decide +kernel), List.mem_of_getElem? (i := 1651) (by decide +kernel), List.mem_of_getElem? (i := 1652) (by decide +kernel)⟩
theorem lw_p27 : lw_okq (⟨"LeaseLedgerModel", "numeral", "(II)I"⟩, 37) := ⟨⟨by decide +kernel, by decide +kernel⟩, List.mem_of_getElem? (i := 1411) (by decide +kernel), List.mem_of_getElem? (i := 1655) (by decide +kernel), List.mem_of_getElem? (i := 1656) (by decide +kernel)⟩
theorem lw_p28 : lw_okq (⟨"LeaseLedgerModel", "readPay", "()V"⟩, 37) := ⟨⟨by decide +kernel, by decide +kernel⟩, List.mem_of_getElem? (i := 1411) (by decide +kernel), List.mem_of_getElem? (i := 1659) (by decide +kernel), List.mem_of_getElem? (i := 1660) (by decide +kernel)⟩
theorem lw_p29 : lw_okq (⟨"LeaseLedgerModel", "atHand", "()I"⟩, 37) := ⟨⟨by decide +kernel, by decide +kernel⟩, List.mem_of_getElem? (i := 1411) (by decide +kernel), List.mem_of_getElem? (i := 1663) (by decide +kernel), List.mem_of_getElem? (i := 1664) (by decide +kernel)⟩
theorem lw_p30 : lw_okq (⟨"LeaseLedgerModel", "readMark", "(I)V"⟩, 37) := ⟨⟨by decide +kernel, by decide +kernel⟩, List.mem_of_getElem? (i := 1411) (by decide +kernel), List.mem_of_getElem? (i := 1668) (by decide +kernel), List.mem_of_getElem? (i := 1669) (by decide +kernel)⟩
theorem lw_p31 : lw_okq (⟨"LeaseLedgerModel", "readFair", "()V"⟩, 37) := ⟨⟨by decide +kernel, by decide +kernel⟩, List.mem_of_getElem? (i := 1411) (by decide +kernel), List.mem_of_getElem? (i := 1672) (by decide +kernel), List.mem_of_getElem? (i := 1673) (by decide +kernel)⟩
def lw_privs_2 : List (MethodName × Nat) := [(⟨"LeaseLedgerModel", "isEarly", "(I)Z"⟩, 37), (⟨"LeaseLedgerModel", "readText", "(I)V"⟩, 37), (⟨"LeaseLedgerModel", "token", "()V"⟩, 37), (⟨"LeaseLedgerModel", "here", "()I"⟩, 37), (⟨"LeaseLedgerModel", "wordHere", "()I"⟩, 37), (⟨"LeaseLedgerModel", "nameHere", "()V"⟩, 37), (⟨"LeaseLedgerModel", "readLine", "()V"⟩, 37), (⟨"LeaseLedgerModel", "wrong", "(I)V"⟩, 37), (⟨"LeaseLedgerModel", "readLease", "()V"⟩, 37), (⟨"LeaseLedgerModel", "goOn", "()V"⟩, 37), (⟨"LeaseLedgerModel", "namedAt", "(III)I"⟩, 37), (⟨"LeaseLedgerModel", "numeral", "(II)I"⟩, 37), (⟨"LeaseLedgerModel", "readPay", "()V"⟩, 37), (⟨"LeaseLedgerModel", "atHand", "()I"⟩, 37), (⟨"LeaseLedgerModel", "readMark", "(I)V"⟩, 37), (⟨"LeaseLedgerModel", "readFair", "()V"⟩, 37)]
theorem lw_r2 : ∀ q ∈ lw_privs_2, lw_okq q := List.forall_mem_cons.mpr ⟨lw_p16, List.forall_mem_cons.mpr ⟨lw_p17, List.forall_mem_cons.mpr ⟨lw_p18, List.forall_mem_cons.mpr ⟨lw_p19, List.forall_mem_cons.mpr ⟨lw_p20, List.forall_mem_cons.mpr ⟨lw_p21, List.forall_mem_cons.mpr ⟨lw_p22, List.forall_mem_cons.mpr ⟨lw_p23, List.forall_mem_cons.mpr ⟨lw_p24, List.forall_mem_cons.mpr ⟨lw_p25, List.forall_mem_cons.mpr ⟨lw_p26, List.forall_mem_cons.mpr ⟨lw_p27, List.forall_mem_cons.mpr ⟨lw_p28, List.forall_mem_cons.mpr ⟨lw_p29, List.forall_mem_cons.mpr ⟨lw_p30, List.forall_mem_cons.mpr ⟨lw_p31, fun _ h => absurd h List.not_mem_nil⟩⟩⟩⟩⟩⟩⟩⟩⟩⟩⟩⟩⟩⟩⟩⟩
theorem lw_p32 : lw_okq (⟨"LeaseLedgerModel", "readFee", "()V"⟩, 37) := ⟨⟨by decide +kernel, by decide +kernel⟩, List.mem_of_getElem? (i := 1411) (by decide +kernel), List.mem_of_getElem? (i := 1676) (by decide +kernel), List.mem_of_getElem? (i := 1677) (by decide +kernel)⟩
theorem lw_p33 : lw_okq (⟨"LeaseLedgerModel", "readChange", "()V"⟩, 37) := ⟨⟨by decide +kernel, by decide +kernel⟩, List.mem_of_getElem? (i := 1411) (by decide +kernel), List.mem_of_getElem? (i := 1680) (by decide +kernel), List.mem_of_getElem? (i := 1681) (by decide +kernel)⟩
theorem lw_p34 : lw_okq (⟨"LeaseLedgerModel", "readOption", "()V"⟩, 37) := ⟨⟨by decide +kernel, by decide +kernel⟩, List.mem_of_getElem? (i := 1411) (by decide +kernel), List.mem_of_getElem? (i := 1684) (by decide +kernel), List.mem_of_getElem? (i := 1685) (by decide +kernel)⟩
theorem lw_p35 : lw_okq (⟨"LeaseLedgerModel", "readSeed", "()V"⟩, 37) := ⟨⟨by decide +kernel, by decide +kernel⟩, List.mem_of_getElem? (i := 1411) (by decide +kernel), List.mem_of_getElem? (i := 1688) (by decide +kernel), List.mem_of_getElem? (i := 1689) (by decide +kernel)⟩
theorem lw_p36 : lw_okq (⟨"LeaseLedgerModel", "remembers", "()V"⟩, 37) := ⟨⟨by decide +kernel, by decide +kernel⟩, List.mem_of_getElem? (i := 1411) (by decide +kernel), List.mem_of_getElem? (i := 1705) (by decide +kernel), List.mem_of_getElem? (i := 1706) (by decide +kernel)⟩
theorem lw_p37 : lw_okq (⟨"LeaseLedgerModel", "periodGoes", "()V"⟩, 37) := ⟨⟨by decide +kernel, by decide +kernel⟩, List.mem_of_getElem? (i := 1411) (by decide +kernel), List.mem_of_getElem? (i := 1712) (by decide +kernel), List.mem_of_getElem? (i := 1713) (by decide +kernel)⟩
theorem lw_p38 : lw_okq (⟨"LeaseLedgerModel", "starts1", "(I)V"⟩, 37) := ⟨⟨by decide +kernel, by decide +kernel⟩, List.mem_of_getElem? (i := 1411) (by decide +kernel), List.mem_of_getElem? (i := 1716) (by decide +kernel), List.mem_of_getElem? (i := 1717) (by decide +kernel)⟩
theorem lw_p39 : lw_okq (⟨"LeaseLedgerModel", "indexNow", "()J"⟩, 37) := ⟨⟨by decide +kernel, by decide +kernel⟩, List.mem_of_getElem? (i := 1411) (by decide +kernel), List.mem_of_getElem? (i := 1720) (by decide +kernel), List.mem_of_getElem? (i := 1721) (by decide +kernel)⟩
theorem lw_p40 : lw_okq (⟨"LeaseLedgerModel", "entry", "(IIJJJJJJ)V"⟩, 37) := ⟨⟨by decide +kernel, by decide +kernel⟩, List.mem_of_getElem? (i := 1411) (by decide +kernel), List.mem_of_getElem? (i := 1724) (by decide +kernel), List.mem_of_getElem? (i := 1725) (by decide +kernel)⟩
theorem lw_p41 : lw_okq (⟨"LeaseLedgerModel", "isOn", "(I)Z"⟩, 37) := ⟨⟨by decide +kernel, by decide +kernel⟩, List.mem_of_getElem? (i := 1411) (by decide +kernel), List.mem_of_getElem? (i := 1729) (by decide +kernel), List.mem_of_getElem? (i := 1730) (by decide +kernel)⟩
theorem lw_p42 : lw_okq (⟨"LeaseLedgerModel", "isTied", "(I)Z"⟩, 37) := ⟨⟨by decide +kernel, by decide +kernel⟩, List.mem_of_getElem? (i := 1411) (by decide +kernel), List.mem_of_getElem? (i := 1733) (by decide +kernel), List.mem_of_getElem? (i := 1734) (by decide +kernel)⟩
theorem lw_p43 : lw_okq (⟨"LeaseLedgerModel", "indexes", "(IJ)V"⟩, 37) := ⟨⟨by decide +kernel, by decide +kernel⟩, List.mem_of_getElem? (i := 1411) (by decide +kernel), List.mem_of_getElem? (i := 1737) (by decide +kernel), List.mem_of_getElem? (i := 1738) (by decide +kernel)⟩
theorem lw_p44 : lw_okq (⟨"LeaseLedgerModel", "remeasures", "(I)J"⟩, 37) := ⟨⟨by decide +kernel, by decide +kernel⟩, List.mem_of_getElem? (i := 1411) (by decide +kernel), List.mem_of_getElem? (i := 1741) (by decide +kernel), List.mem_of_getElem? (i := 1742) (by decide +kernel)⟩
theorem lw_p45 : lw_okq (⟨"LeaseLedgerModel", "pays", "(I)V"⟩, 37) := ⟨⟨by decide +kernel, by decide +kernel⟩, List.mem_of_getElem? (i := 1411) (by decide +kernel), List.mem_of_getElem? (i := 1745) (by decide +kernel), List.mem_of_getElem? (i := 1746) (by decide +kernel)⟩
theorem lw_p46 : lw_okq (⟨"LeaseLedgerModel", "left", "(I)I"⟩, 37) := ⟨⟨by decide +kernel, by decide +kernel⟩, List.mem_of_getElem? (i := 1411) (by decide +kernel), List.mem_of_getElem? (i := 1749) (by decide +kernel), List.mem_of_getElem? (i := 1750) (by decide +kernel)⟩
theorem lw_p47 : lw_okq (⟨"LeaseLedgerModel", "isLease", "(I)Z"⟩, 37) := ⟨⟨by decide +kernel, by decide +kernel⟩, List.mem_of_getElem? (i := 1411) (by decide +kernel), List.mem_of_getElem? (i := 1757) (by decide +kernel), List.mem_of_getElem? (i := 1758) (by decide +kernel)⟩
def lw_privs_3 : List (MethodName × Nat) := [(⟨"LeaseLedgerModel", "readFee", "()V"⟩, 37), (⟨"LeaseLedgerModel", "readChange", "()V"⟩, 37), (⟨"LeaseLedgerModel", "readOption", "()V"⟩, 37), (⟨"LeaseLedgerModel", "readSeed", "()V"⟩, 37), (⟨"LeaseLedgerModel", "remembers", "()V"⟩, 37), (⟨"LeaseLedgerModel", "periodGoes", "()V"⟩, 37), (⟨"LeaseLedgerModel", "starts1", "(I)V"⟩, 37), (⟨"LeaseLedgerModel", "indexNow", "()J"⟩, 37), (⟨"LeaseLedgerModel", "entry", "(IIJJJJJJ)V"⟩, 37), (⟨"LeaseLedgerModel", "isOn", "(I)Z"⟩, 37), (⟨"LeaseLedgerModel", "isTied", "(I)Z"⟩, 37), (⟨"LeaseLedgerModel", "indexes", "(IJ)V"⟩, 37), (⟨"LeaseLedgerModel", "remeasures", "(I)J"⟩, 37), (⟨"LeaseLedgerModel", "pays", "(I)V"⟩, 37), (⟨"LeaseLedgerModel", "left", "(I)I"⟩, 37), (⟨"LeaseLedgerModel", "isLease", "(I)Z"⟩, 37)]
theorem lw_r3 : ∀ q ∈ lw_privs_3, lw_okq q := List.forall_mem_cons.mpr ⟨lw_p32, List.forall_mem_cons.mpr ⟨lw_p33, List.forall_mem_cons.mpr ⟨lw_p34, List.forall_mem_cons.mpr ⟨lw_p35, List.forall_mem_cons.mpr ⟨lw_p36, List.forall_mem_cons.mpr ⟨lw_p37, List.forall_mem_cons.mpr ⟨lw_p38, List.forall_mem_cons.mpr ⟨lw_p39, List.forall_mem_cons.mpr ⟨lw_p40, List.forall_mem_cons.mpr ⟨lw_p41, List.forall_mem_cons.mpr ⟨lw_p42, List.forall_mem_cons.mpr ⟨lw_p43, List.forall_mem_cons.mpr ⟨lw_p44, List.forall_mem_cons.mpr ⟨lw_p45, List.forall_mem_cons.mpr ⟨lw_p46, List.forall_mem_cons.mpr ⟨lw_p47, fun _ h => absurd h List.not_mem_nil⟩⟩⟩⟩⟩⟩⟩⟩⟩⟩⟩⟩⟩⟩⟩⟩
theorem lw_p48 : lw_okq (⟨"LeaseLedgerModel", "isOwn", "(II)Z"⟩, 37) := ⟨⟨by decide +kernel, by decide +kernel⟩, List.mem_of_getElem? (i := 1411) (by decide +kernel), List.mem_of_getElem? (i := 1769) (by decide +kernel), List.mem_of_getElem? (i := 1770) (by decide +kernel)⟩
theorem lw_p49 : lw_okq (⟨"LeaseLedgerModel", "isRunning", "(I)Z"⟩, 37) := ⟨⟨by decide +kernel, by decide +kernel⟩, List.mem_of_getElem? (i := 1411) (by decide +kernel), List.mem_of_getElem? (i := 1802) (by decide +kernel), List.mem_of_getElem? (i := 1803) (by decide +kernel)⟩
theorem lw_p50 : lw_okq (⟨"LeaseLedgerModel", "canBeLonger", "(II)Z"⟩, 37) := ⟨⟨by decide +kernel, by decide +kernel⟩, List.mem_of_getElem? (i := 1411) (by decide +kernel), List.mem_of_getElem? (i := 1810) (by decide +kernel), List.mem_of_getElem? (i := 1811) (by decide +kernel)⟩
theorem lw_p51 : lw_okq (⟨"LeaseLedgerModel", "adds", "(IIJJ)V"⟩, 37) := ⟨⟨by decide +kernel, by decide +kernel⟩, List.mem_of_getElem? (i := 1411) (by decide +kernel), List.mem_of_getElem? (i := 1815) (by decide +kernel), List.mem_of_getElem? (i := 1816) (by decide +kernel)⟩
theorem lw_p52 : lw_okq (⟨"LeaseLedgerModel", "canTake", "(I)Z"⟩, 37) := ⟨⟨by decide +kernel, by decide +kernel⟩, List.mem_of_getElem? (i := 1411) (by decide +kernel), List.mem_of_getElem? (i := 1823) (by decide +kernel), List.mem_of_getElem? (i := 1824) (by decide +kernel)⟩
theorem lw_p53 : lw_okq (⟨"LeaseLedgerModel", "takes", "(I)J"⟩, 37) := ⟨⟨by decide +kernel, by decide +kernel⟩, List.mem_of_getElem? (i := 1411) (by decide +kernel), List.mem_of_getElem? (i := 1827) (by decide +kernel), List.mem_of_getElem? (i := 1828) (by decide +kernel)⟩
theorem lw_p54 : lw_okq (⟨"LeaseLedgerModel", "gives", "(IIJJ)V"⟩, 37) := ⟨⟨by decide +kernel, by decide +kernel⟩, List.mem_of_getElem? (i := 1411) (by decide +kernel), List.mem_of_getElem? (i := 1835) (by decide +kernel), List.mem_of_getElem? (i := 1836) (by decide +kernel)⟩
theorem lw_p55 : lw_okq (⟨"LeaseLedgerModel", "becomes", "(J)V"⟩, 37) := ⟨⟨by decide +kernel, by decide +kernel⟩, List.mem_of_getElem? (i := 1411) (by decide +kernel), List.mem_of_getElem? (i := 1855) (by decide +kernel), List.mem_of_getElem? (i := 1856) (by decide +kernel)⟩
theorem lw_p56 : lw_okq (⟨"LeaseLedgerModel", "ahead", "(I)V"⟩, 37) := ⟨⟨by decide +kernel, by decide +kernel⟩, List.mem_of_getElem? (i := 1411) (by decide +kernel), List.mem_of_getElem? (i := 1866) (by decide +kernel), List.mem_of_getElem? (i := 1867) (by decide +kernel)⟩
theorem lw_p57 : lw_okq (⟨"LeaseLedgerModel", "back1", "()V"⟩, 37) := ⟨⟨by decide +kernel, by decide +kernel⟩, List.mem_of_getElem? (i := 1411) (by decide +kernel), List.mem_of_getElem? (i := 1870) (by decide +kernel), List.mem_of_getElem? (i := 1871) (by decide +kernel)⟩
theorem lw_p58 : lw_okq (⟨"LeaseLedgerModel", "owedAll", "()J"⟩, 37) := ⟨⟨by decide +kernel, by decide +kernel⟩, List.mem_of_getElem? (i := 1411) (by decide +kernel), List.mem_of_getElem? (i := 1878) (by decide +kernel), List.mem_of_getElem? (i := 1879) (by decide +kernel)⟩
theorem lw_p59 : lw_okq (⟨"LeaseLedgerModel", "paidAll", "()J"⟩, 37) := ⟨⟨by decide +kernel, by decide +kernel⟩, List.mem_of_getElem? (i := 1411) (by decide +kernel), List.mem_of_getElem? (i := 1902) (by decide +kernel), List.mem_of_getElem? (i := 1903) (by decide +kernel)⟩
theorem lw_p60 : lw_okq (⟨"LeaseLedgerModel", "takesAll", "(II)Z"⟩, 37) := ⟨⟨by decide +kernel, by decide +kernel⟩, List.mem_of_getElem? (i := 1411) (by decide +kernel), List.mem_of_getElem? (i := 1930) (by decide +kernel), List.mem_of_getElem? (i := 1931) (by decide +kernel)⟩
theorem lw_p61 : lw_okq (⟨"LeaseLedgerModel", "draw", "(I)I"⟩, 37) := ⟨⟨by decide +kernel, by decide +kernel⟩, List.mem_of_getElem? (i := 1411) (by decide +kernel), List.mem_of_getElem? (i := 1953) (by decide +kernel), List.mem_of_getElem? (i := 1954) (by decide +kernel)⟩
theorem lw_p62 : lw_okq (⟨"LeaseLedgerModel", "running", "()I"⟩, 37) := ⟨⟨by decide +kernel, by decide +kernel⟩, List.mem_of_getElem? (i := 1411) (by decide +kernel), List.mem_of_getElem? (i := 1981) (by decide +kernel), List.mem_of_getElem? (i := 1982) (by decide +kernel)⟩
def lw_privs_4 : List (MethodName × Nat) := [(⟨"LeaseLedgerModel", "isOwn", "(II)Z"⟩, 37), (⟨"LeaseLedgerModel", "isRunning", "(I)Z"⟩, 37), (⟨"LeaseLedgerModel", "canBeLonger", "(II)Z"⟩, 37), (⟨"LeaseLedgerModel", "adds", "(IIJJ)V"⟩, 37), (⟨"LeaseLedgerModel", "canTake", "(I)Z"⟩, 37), (⟨"LeaseLedgerModel", "takes", "(I)J"⟩, 37), (⟨"LeaseLedgerModel", "gives", "(IIJJ)V"⟩, 37), (⟨"LeaseLedgerModel", "becomes", "(J)V"⟩, 37), (⟨"LeaseLedgerModel", "ahead", "(I)V"⟩, 37), (⟨"LeaseLedgerModel", "back1", "()V"⟩, 37), (⟨"LeaseLedgerModel", "owedAll", "()J"⟩, 37), (⟨"LeaseLedgerModel", "paidAll", "()J"⟩, 37), (⟨"LeaseLedgerModel", "takesAll", "(II)Z"⟩, 37), (⟨"LeaseLedgerModel", "draw", "(I)I"⟩, 37), (⟨"LeaseLedgerModel", "running", "()I"⟩, 37)]
theorem lw_r4 : ∀ q ∈ lw_privs_4, lw_okq q := List.forall_mem_cons.mpr ⟨lw_p48, List.forall_mem_cons.mpr ⟨lw_p49, List.forall_mem_cons.mpr ⟨lw_p50, List.forall_mem_cons.mpr ⟨lw_p51, List.forall_mem_cons.mpr ⟨lw_p52, List.forall_mem_cons.mpr ⟨lw_p53, List.forall_mem_cons.mpr ⟨lw_p54, List.forall_mem_cons.mpr ⟨lw_p55, List.forall_mem_cons.mpr ⟨lw_p56, List.forall_mem_cons.mpr ⟨lw_p57, List.forall_mem_cons.mpr ⟨lw_p58, List.forall_mem_cons.mpr ⟨lw_p59, List.forall_mem_cons.mpr ⟨lw_p60, List.forall_mem_cons.mpr ⟨lw_p61, List.forall_mem_cons.mpr ⟨lw_p62, fun _ h => absurd h List.not_mem_nil⟩⟩⟩⟩⟩⟩⟩⟩⟩⟩⟩⟩⟩⟩⟩
def lw_privs : List (MethodName × Nat) := lw_privs_1 ++ (lw_privs_2 ++ (lw_privs_3 ++ (lw_privs_4)))
def lw_tbl : List Cond := k2_sels lw_privs ++ tables_1
theorem lw_privs_ok : ∀ q ∈ lw_privs, lw_okq q := by
  show ∀ q ∈ lw_privs_1 ++ (lw_privs_2 ++ (lw_privs_3 ++ (lw_privs_4))), lw_okq q
  exact List.forall_mem_append.mpr ⟨lw_r1, List.forall_mem_append.mpr ⟨lw_r2, List.forall_mem_append.mpr ⟨lw_r3, lw_r4⟩⟩⟩

def RX0 : String := "LeaseLedger$1"
def TX0 : u_T := fun k => match k with
  | _ => ("", "", "", false)
def tyX0 : Nat → FieldType := fun k => match k with
  | _ => .int
abbrev wsX00 : List Cond := u_ws RX0 TX0 0
theorem nmX0 : ∀ a, a < 0 → ∀ b, b < 0 → a ≠ b → (TX0 a).2.1 ≠ (TX0 b).2.1 := by decide +kernel
theorem tyX0_ok : ∀ k, k < 0 → parseFieldDescriptor (TX0 k).2.2.1 = some (tyX0 k) := by decide +kernel
def RX1 : String := "LeaseLedger$Amount"
def TX1 : u_T := fun k => match k with
  | 0 => ("LeaseLedger$Amount", "high", "J", false)
  | _ => ("LeaseLedger$Amount", "low", "J", false)
def tyX1 : Nat → FieldType := fun k => match k with
  | 0 => .long
  | _ => .long
abbrev wsX10 : List Cond := u_ws RX1 TX1 2
theorem nmX1 : ∀ a, a < 2 → ∀ b, b < 2 → a ≠ b → (TX1 a).2.1 ≠ (TX1 b).2.1 := by decide +kernel
theorem tyX1_ok : ∀ k, k < 2 → parseFieldDescriptor (TX1 k).2.2.1 = some (tyX1 k) := by decide +kernel
abbrev cX1_init : ByteArray := prog_3_method_1_code
def yX1_init : MethodName := ⟨RX1, "<init>", "()V"⟩
abbrev cX1_set : ByteArray := prog_3_method_2_code
def yX1_set : MethodName := ⟨RX1, "set", "(J)V"⟩
abbrev cX1_copyFrom : ByteArray := prog_3_method_3_code
def yX1_copyFrom : MethodName := ⟨RX1, "copyFrom", "(LLeaseLedger$Amount;)V"⟩
abbrev cX1_asLong : ByteArray := prog_3_method_4_code
def yX1_asLong : MethodName := ⟨RX1, "asLong", "()J"⟩
abbrev cX1_isZero : ByteArray := prog_3_method_5_code
def yX1_isZero : MethodName := ⟨RX1, "isZero", "()Z"⟩
abbrev cX1_isAtLeast : ByteArray := prog_3_method_6_code
def yX1_isAtLeast : MethodName := ⟨RX1, "isAtLeast", "(J)Z"⟩
abbrev cX1_isAbove : ByteArray := prog_3_method_7_code
def yX1_isAbove : MethodName := ⟨RX1, "isAbove", "(LLeaseLedger$Amount;)Z"⟩
abbrev cX1_isGreaterShare : ByteArray := prog_3_method_8_code
def yX1_isGreaterShare : MethodName := ⟨RX1, "isGreaterShare", "(ILLeaseLedger$Amount;I)Z"⟩
abbrev cX1_holdToZero : ByteArray := prog_3_method_9_code
def yX1_holdToZero : MethodName := ⟨RX1, "holdToZero", "()V"⟩
abbrev cX1_addLong : ByteArray := prog_3_method_10_code
def yX1_addLong : MethodName := ⟨RX1, "addLong", "(J)V"⟩
abbrev cX1_add : ByteArray := prog_3_method_11_code
def yX1_add : MethodName := ⟨RX1, "add", "(LLeaseLedger$Amount;)V"⟩
abbrev cX1_subtract : ByteArray := prog_3_method_12_code
def yX1_subtract : MethodName := ⟨RX1, "subtract", "(LLeaseLedger$Amount;)V"⟩
abbrev cX1_times : ByteArray := prog_3_method_13_code
def yX1_times : MethodName := ⟨RX1, "times", "(J)V"⟩
abbrev cX1_shareDown : ByteArray := prog_3_method_14_code
def yX1_shareDown : MethodName := ⟨RX1, "shareDown", "(JJ)V"⟩
abbrev cX1_shareRounded : ByteArray := prog_3_method_15_code
def yX1_shareRounded : MethodName := ⟨RX1, "shareRounded", "(JJ)V"⟩
abbrev cX1_share : ByteArray := prog_3_method_16_code
def yX1_share : MethodName := ⟨RX1, "share", "(JJJ)V"⟩
abbrev cX1_takeOut : ByteArray := prog_3_method_17_code
def yX1_takeOut : MethodName := ⟨RX1, "takeOut", "(LLeaseLedger$Amount;)J"⟩
def RX2 : String := "LeaseLedger$Book"
def TX2 : u_T := fun k => match k with
  | 0 => ("LeaseLedger$Book", "leases", "[LLeaseLedger$Lease;", true)
  | 1 => ("LeaseLedger$Book", "options", "[LLeaseLedger$Option;", true)
  | 2 => ("LeaseLedger$Book", "indexes", "[I", true)
  | 3 => ("LeaseLedger$Book", "toldPeriods", "[I", true)
  | 4 => ("LeaseLedger$Book", "journal", "LLeaseLedger$Journal;", true)
  | 5 => ("LeaseLedger$Book", "paid", "LLeaseLedger$Amount;", true)
  | 6 => ("LeaseLedger$Book", "held", "LLeaseLedger$Amount;", true)
  | 7 => ("LeaseLedger$Book", "then", "LLeaseLedger$Amount;", true)
  | 8 => ("LeaseLedger$Book", "leaseCount", "I", false)
  | 9 => ("LeaseLedger$Book", "optionCount", "I", false)
  | 10 => ("LeaseLedger$Book", "toldCount", "I", false)
  | 11 => ("LeaseLedger$Book", "period", "I", false)
  | _ => ("LeaseLedger$Book", "seed", "I", false)
def tyX2 : Nat → FieldType := fun k => match k with
  | 0 => .array (.object "LeaseLedger$Lease")
  | 1 => .array (.object "LeaseLedger$Option")
  | 2 => .array .int
  | 3 => .array .int
  | 4 => .object "LeaseLedger$Journal"
  | 5 => .object "LeaseLedger$Amount"
  | 6 => .object "LeaseLedger$Amount"
  | 7 => .object "LeaseLedger$Amount"
  | 8 => .int
  | 9 => .int
  | 10 => .int
  | 11 => .int
  | _ => .int
abbrev wsX20 : List Cond := u_ws RX2 TX2 13
theorem nmX2 : ∀ a, a < 13 → ∀ b, b < 13 → a ≠ b → (TX2 a).2.1 ≠ (TX2 b).2.1 := by decide +kernel
theorem tyX2_ok : ∀ k, k < 13 → parseFieldDescriptor (TX2 k).2.2.1 = some (tyX2 k) := by decide +kernel
abbrev cX2_init : ByteArray := prog_4_method_1_code
def yX2_init : MethodName := ⟨RX2, "<init>", "()V"⟩
abbrev cX2_clear : ByteArray := prog_4_method_2_code
def yX2_clear : MethodName := ⟨RX2, "clear", "()V"⟩
abbrev cX2_copyFrom : ByteArray := prog_4_method_3_code
def yX2_copyFrom : MethodName := ⟨RX2, "copyFrom", "(LLeaseLedger$Book;)V"⟩
abbrev cX2_addLease : ByteArray := prog_4_method_4_code
def yX2_addLease : MethodName := ⟨RX2, "addLease", "(IIII)V"⟩
abbrev cX2_addOption : ByteArray := prog_4_method_5_code
def yX2_addOption : MethodName := ⟨RX2, "addOption", "(III)V"⟩
abbrev cX2_addIndex : ByteArray := prog_4_method_6_code
def yX2_addIndex : MethodName := ⟨RX2, "addIndex", "(II)V"⟩
abbrev cX2_lastTold : ByteArray := prog_4_method_7_code
def yX2_lastTold : MethodName := ⟨RX2, "lastTold", "()I"⟩
abbrev cX2_leaseNamed : ByteArray := prog_4_method_8_code
def yX2_leaseNamed : MethodName := ⟨RX2, "leaseNamed", "(I)I"⟩
abbrev cX2_findRates : ByteArray := prog_4_method_9_code
def yX2_findRates : MethodName := ⟨RX2, "findRates", "(LLeaseLedger$Amount;)V"⟩
abbrev cX2_runningLeases : ByteArray := prog_4_method_10_code
def yX2_runningLeases : MethodName := ⟨RX2, "runningLeases", "()I"⟩
abbrev cX2_countAllOwed : ByteArray := prog_4_method_11_code
def yX2_countAllOwed : MethodName := ⟨RX2, "countAllOwed", "(LLeaseLedger$Amount;)V"⟩
abbrev cX2_indexNow : ByteArray := prog_4_method_12_code
def yX2_indexNow : MethodName := ⟨RX2, "indexNow", "()I"⟩
abbrev cX2_changeIndex : ByteArray := prog_4_method_13_code
def yX2_changeIndex : MethodName := ⟨RX2, "changeIndex", "(I)V"⟩
abbrev cX2_periodGoesBy : ByteArray := prog_4_method_14_code
def yX2_periodGoesBy : MethodName := ⟨RX2, "periodGoesBy", "()V"⟩
abbrev cX2_begin : ByteArray := prog_4_method_15_code
def yX2_begin : MethodName := ⟨RX2, "begin", "(ILLeaseLedger$Lease;)V"⟩
abbrev cX2_payAndWriteOff : ByteArray := prog_4_method_16_code
def yX2_payAndWriteOff : MethodName := ⟨RX2, "payAndWriteOff", "(ILLeaseLedger$Lease;)V"⟩
abbrev cX2_remeasure : ByteArray := prog_4_method_17_code
def yX2_remeasure : MethodName := ⟨RX2, "remeasure", "(ILLeaseLedger$Lease;)J"⟩
abbrev cX2_giveBack : ByteArray := prog_4_method_18_code
def yX2_giveBack : MethodName := ⟨RX2, "giveBack", "(ILLeaseLedger$Lease;JI)J"⟩
abbrev cX2_writeDown : ByteArray := prog_4_method_19_code
def yX2_writeDown : MethodName := ⟨RX2, "writeDown", "(ILLeaseLedger$Lease;J)V"⟩
abbrev cX2_canTake : ByteArray := prog_4_method_20_code
def yX2_canTake : MethodName := ⟨RX2, "canTake", "(I)Z"⟩
abbrev cX2_canTakeSet : ByteArray := prog_4_method_21_code
def yX2_canTakeSet : MethodName := ⟨RX2, "canTakeSet", "(II)Z"⟩
abbrev cX2_goOnBySet : ByteArray := prog_4_method_22_code
def yX2_goOnBySet : MethodName := ⟨RX2, "goOnBySet", "(LLeaseLedger$Lease;I)V"⟩
abbrev cX2_goOnByOption : ByteArray := prog_4_method_23_code
def yX2_goOnByOption : MethodName := ⟨RX2, "goOnByOption", "(LLeaseLedger$Lease;LLeaseLedger$Option;)V"⟩
abbrev cX2_yearByChance : ByteArray := prog_4_method_24_code
def yX2_yearByChance : MethodName := ⟨RX2, "yearByChance", "(J)J"⟩
def RX3 : String := "LeaseLedger$Journal"
def TX3 : u_T := fun k => match k with
  | 0 => ("LeaseLedger$Journal", "rows", "[J", true)
  | 1 => ("LeaseLedger$Journal", "accounts", "[J", true)
  | _ => ("LeaseLedger$Journal", "total", "I", false)
def tyX3 : Nat → FieldType := fun k => match k with
  | 0 => .array .long
  | 1 => .array .long
  | _ => .int
abbrev wsX30 : List Cond := u_ws RX3 TX3 3
theorem nmX3 : ∀ a, a < 3 → ∀ b, b < 3 → a ≠ b → (TX3 a).2.1 ≠ (TX3 b).2.1 := by decide +kernel
theorem tyX3_ok : ∀ k, k < 3 → parseFieldDescriptor (TX3 k).2.2.1 = some (tyX3 k) := by decide +kernel
abbrev cX3_init : ByteArray := prog_5_method_1_code
def yX3_init : MethodName := ⟨RX3, "<init>", "()V"⟩
abbrev cX3_clear : ByteArray := prog_5_method_2_code
def yX3_clear : MethodName := ⟨RX3, "clear", "()V"⟩
abbrev cX3_copyFrom : ByteArray := prog_5_method_3_code
def yX3_copyFrom : MethodName := ⟨RX3, "copyFrom", "(LLeaseLedger$Journal;)V"⟩
abbrev cX3_kept : ByteArray := prog_5_method_4_code
def yX3_kept : MethodName := ⟨RX3, "kept", "()I"⟩
abbrev cX3_open : ByteArray := prog_5_method_5_code
def yX3_open : MethodName := ⟨RX3, "open", "(III)V"⟩
abbrev cX3_put : ByteArray := prog_5_method_6_code
def yX3_put : MethodName := ⟨RX3, "put", "(IJ)V"⟩
abbrev cX3_told : ByteArray := prog_5_method_7_code
def yX3_told : MethodName := ⟨RX3, "told", "(II)J"⟩
def RX4 : String := "LeaseLedger$Kind"
def TX4 : u_T := fun k => match k with
  | _ => ("", "", "", false)
def tyX4 : Nat → FieldType := fun k => match k with
  | _ => .int
abbrev wsX40 : List Cond := u_ws RX4 TX4 0
theorem nmX4 : ∀ a, a < 0 → ∀ b, b < 0 → a ≠ b → (TX4 a).2.1 ≠ (TX4 b).2.1 := by decide +kernel
theorem tyX4_ok : ∀ k, k < 0 → parseFieldDescriptor (TX4 k).2.2.1 = some (tyX4 k) := by decide +kernel
def RX5 : String := "LeaseLedger$Lease"
def TX5 : u_T := fun k => match k with
  | 0 => ("LeaseLedger$Lease", "name", "I", false)
  | 1 => ("LeaseLedger$Lease", "start", "I", false)
  | 2 => ("LeaseLedger$Lease", "term", "I", false)
  | 3 => ("LeaseLedger$Lease", "rate", "I", false)
  | 4 => ("LeaseLedger$Lease", "fair", "I", false)
  | 5 => ("LeaseLedger$Lease", "fee", "I", false)
  | 6 => ("LeaseLedger$Lease", "base", "I", false)
  | 7 => ("LeaseLedger$Lease", "indexed", "I", false)
  | 8 => ("LeaseLedger$Lease", "gone", "I", false)
  | 9 => ("LeaseLedger$Lease", "stage", "I", false)
  | 10 => ("LeaseLedger$Lease", "found", "Z", false)
  | 11 => ("LeaseLedger$Lease", "early", "Z", false)
  | 12 => ("LeaseLedger$Lease", "tied", "Z", false)
  | 13 => ("LeaseLedger$Lease", "owed", "LLeaseLedger$Amount;", true)
  | 14 => ("LeaseLedger$Lease", "used", "LLeaseLedger$Amount;", true)
  | 15 => ("LeaseLedger$Lease", "due", "LLeaseLedger$Row;", true)
  | 16 => ("LeaseLedger$Lease", "setting", "LLeaseLedger$Row;", true)
  | _ => ("LeaseLedger$Lease", "moved", "[J", true)
def tyX5 : Nat → FieldType := fun k => match k with
  | 0 => .int
  | 1 => .int
  | 2 => .int
  | 3 => .int
  | 4 => .int
  | 5 => .int
  | 6 => .int
  | 7 => .int
  | 8 => .int
  | 9 => .int
  | 10 => .boolean
  | 11 => .boolean
  | 12 => .boolean
  | 13 => .object "LeaseLedger$Amount"
  | 14 => .object "LeaseLedger$Amount"
  | 15 => .object "LeaseLedger$Row"
  | 16 => .object "LeaseLedger$Row"
  | _ => .array .long
abbrev wsX50 : List Cond := u_ws RX5 TX5 18
theorem nmX5 : ∀ a, a < 18 → ∀ b, b < 18 → a ≠ b → (TX5 a).2.1 ≠ (TX5 b).2.1 := by decide +kernel
theorem tyX5_ok : ∀ k, k < 18 → parseFieldDescriptor (TX5 k).2.2.1 = some (tyX5 k) := by decide +kernel
abbrev cX5_init : ByteArray := prog_7_method_1_code
def yX5_init : MethodName := ⟨RX5, "<init>", "()V"⟩
abbrev cX5_tell : ByteArray := prog_7_method_2_code
def yX5_tell : MethodName := ⟨RX5, "tell", "(IIII)V"⟩
abbrev cX5_copyFrom : ByteArray := prog_7_method_3_code
def yX5_copyFrom : MethodName := ⟨RX5, "copyFrom", "(LLeaseLedger$Lease;)V"⟩
abbrev cX5_owns : ByteArray := prog_7_method_4_code
def yX5_owns : MethodName := ⟨RX5, "owns", "(I)Z"⟩
abbrev cX5_left : ByteArray := prog_7_method_5_code
def yX5_left : MethodName := ⟨RX5, "left", "()I"⟩
abbrev cX5_payMore : ByteArray := prog_7_method_6_code
def yX5_payMore : MethodName := ⟨RX5, "payMore", "(III)V"⟩
abbrev cX5_worthLeft : ByteArray := prog_7_method_7_code
def yX5_worthLeft : MethodName := ⟨RX5, "worthLeft", "(LLeaseLedger$Amount;)V"⟩
abbrev cX5_worthFrom : ByteArray := prog_7_method_8_code
def yX5_worthFrom : MethodName := ⟨RX5, "worthFrom", "(IILLeaseLedger$Amount;)V"⟩
abbrev cX5_greatestRate : ByteArray := prog_7_method_9_code
def yX5_greatestRate : MethodName := ⟨RX5, "greatestRate", "(IJLLeaseLedger$Amount;)I"⟩
abbrev cX5_leastLevel : ByteArray := prog_7_method_10_code
def yX5_leastLevel : MethodName := ⟨RX5, "leastLevel", "(JLLeaseLedger$Amount;)I"⟩
abbrev cX5_worthOfLevel : ByteArray := prog_7_method_11_code
def yX5_worthOfLevel : MethodName := ⟨RX5, "worthOfLevel", "(ILLeaseLedger$Amount;)V"⟩
abbrev cX5_followIndex : ByteArray := prog_7_method_12_code
def yX5_followIndex : MethodName := ⟨RX5, "followIndex", "(I)V"⟩
abbrev cX5_goOnAsLast : ByteArray := prog_7_method_13_code
def yX5_goOnAsLast : MethodName := ⟨RX5, "goOnAsLast", "(I)V"⟩
abbrev cX5_goOn : ByteArray := prog_7_method_14_code
def yX5_goOn : MethodName := ⟨RX5, "goOn", "(IJ)V"⟩
abbrev cX5_keepPart : ByteArray := prog_7_method_15_code
def yX5_keepPart : MethodName := ⟨RX5, "keepPart", "(J)V"⟩
abbrev cX5_movePayment : ByteArray := prog_7_method_16_code
def yX5_movePayment : MethodName := ⟨RX5, "movePayment", "(II)V"⟩
abbrev cX5_owedBehind : ByteArray := prog_7_method_17_code
def yX5_owedBehind : MethodName := ⟨RX5, "owedBehind", "(LLeaseLedger$Amount;LLeaseLedger$Amount;)V"⟩
def RX6 : String := "LeaseLedger$Option"
def TX6 : u_T := fun k => match k with
  | 0 => ("LeaseLedger$Option", "lease", "I", false)
  | 1 => ("LeaseLedger$Option", "more", "I", false)
  | 2 => ("LeaseLedger$Option", "each", "I", false)
  | _ => ("LeaseLedger$Option", "taken", "Z", false)
def tyX6 : Nat → FieldType := fun k => match k with
  | 0 => .int
  | 1 => .int
  | 2 => .int
  | _ => .boolean
abbrev wsX60 : List Cond := u_ws RX6 TX6 4
theorem nmX6 : ∀ a, a < 4 → ∀ b, b < 4 → a ≠ b → (TX6 a).2.1 ≠ (TX6 b).2.1 := by decide +kernel
theorem tyX6_ok : ∀ k, k < 4 → parseFieldDescriptor (TX6 k).2.2.1 = some (tyX6 k) := by decide +kernel
abbrev cX6_init : ByteArray := prog_8_method_1_code
def yX6_init : MethodName := ⟨RX6, "<init>", "()V"⟩
abbrev cX6_copyFrom : ByteArray := prog_8_method_2_code
def yX6_copyFrom : MethodName := ⟨RX6, "copyFrom", "(LLeaseLedger$Option;)V"⟩
def RX7 : String := "LeaseLedger$Reader"
def TX7 : u_T := fun k => match k with
  | 0 => ("LeaseLedger$Reader", "bytes", "[B", true)
  | 1 => ("LeaseLedger$Reader", "length", "I", false)
  | 2 => ("LeaseLedger$Reader", "book", "LLeaseLedger$Book;", false)
  | 3 => ("LeaseLedger$Reader", "toldOf", "[I", true)
  | 4 => ("LeaseLedger$Reader", "next", "I", false)
  | 5 => ("LeaseLedger$Reader", "start", "I", false)
  | 6 => ("LeaseLedger$Reader", "token", "I", false)
  | 7 => ("LeaseLedger$Reader", "value", "I", false)
  | 8 => ("LeaseLedger$Reader", "pays", "I", false)
  | 9 => ("LeaseLedger$Reader", "seedTold", "Z", false)
  | 10 => ("LeaseLedger$Reader", "lines", "I", false)
  | 11 => ("LeaseLedger$Reader", "fault", "I", false)
  | _ => ("LeaseLedger$Reader", "place", "I", false)
def tyX7 : Nat → FieldType := fun k => match k with
  | 0 => .array .byte
  | 1 => .int
  | 2 => .object "LeaseLedger$Book"
  | 3 => .array .int
  | 4 => .int
  | 5 => .int
  | 6 => .int
  | 7 => .int
  | 8 => .int
  | 9 => .boolean
  | 10 => .int
  | 11 => .int
  | _ => .int
abbrev wsX70 : List Cond := u_ws RX7 TX7 13
theorem nmX7 : ∀ a, a < 13 → ∀ b, b < 13 → a ≠ b → (TX7 a).2.1 ≠ (TX7 b).2.1 := by decide +kernel
theorem tyX7_ok : ∀ k, k < 13 → parseFieldDescriptor (TX7 k).2.2.1 = some (tyX7 k) := by decide +kernel
abbrev cX7_init : ByteArray := prog_9_method_1_code
def yX7_init : MethodName := ⟨RX7, "<init>", "([BLLeaseLedger$Book;)V"⟩
abbrev cX7_begin : ByteArray := prog_9_method_2_code
def yX7_begin : MethodName := ⟨RX7, "begin", "(ILLeaseLedger$Book;)V"⟩
abbrev cX7_read : ByteArray := prog_9_method_3_code
def yX7_read : MethodName := ⟨RX7, "read", "()V"⟩
abbrev cX7_readLine : ByteArray := prog_9_method_4_code
def yX7_readLine : MethodName := ⟨RX7, "readLine", "()V"⟩
abbrev cX7_readLease : ByteArray := prog_9_method_5_code
def yX7_readLease : MethodName := ⟨RX7, "readLease", "()V"⟩
abbrev cX7_readPay : ByteArray := prog_9_method_6_code
def yX7_readPay : MethodName := ⟨RX7, "readPay", "()V"⟩
abbrev cX7_readEarly : ByteArray := prog_9_method_7_code
def yX7_readEarly : MethodName := ⟨RX7, "readEarly", "()V"⟩
abbrev cX7_readFair : ByteArray := prog_9_method_8_code
def yX7_readFair : MethodName := ⟨RX7, "readFair", "()V"⟩
abbrev cX7_readFee : ByteArray := prog_9_method_9_code
def yX7_readFee : MethodName := ⟨RX7, "readFee", "()V"⟩
abbrev cX7_readTied : ByteArray := prog_9_method_10_code
def yX7_readTied : MethodName := ⟨RX7, "readTied", "()V"⟩
abbrev cX7_readIndex : ByteArray := prog_9_method_11_code
def yX7_readIndex : MethodName := ⟨RX7, "readIndex", "()V"⟩
abbrev cX7_readOption : ByteArray := prog_9_method_12_code
def yX7_readOption : MethodName := ⟨RX7, "readOption", "()V"⟩
abbrev cX7_readSeed : ByteArray := prog_9_method_13_code
def yX7_readSeed : MethodName := ⟨RX7, "readSeed", "()V"⟩
abbrev cX7_startLine : ByteArray := prog_9_method_14_code
def yX7_startLine : MethodName := ⟨RX7, "startLine", "(I)V"⟩
abbrev cX7_readStop : ByteArray := prog_9_method_15_code
def yX7_readStop : MethodName := ⟨RX7, "readStop", "()V"⟩
abbrev cX7_readNumber : ByteArray := prog_9_method_16_code
def yX7_readNumber : MethodName := ⟨RX7, "readNumber", "(II)I"⟩
abbrev cX7_readNewName : ByteArray := prog_9_method_17_code
def yX7_readNewName : MethodName := ⟨RX7, "readNewName", "()I"⟩
abbrev cX7_readToldName : ByteArray := prog_9_method_18_code
def yX7_readToldName : MethodName := ⟨RX7, "readToldName", "()I"⟩
abbrev cX7_readNameOnce : ByteArray := prog_9_method_19_code
def yX7_readNameOnce : MethodName := ⟨RX7, "readNameOnce", "(I)I"⟩
abbrev cX7_readName : ByteArray := prog_9_method_20_code
def yX7_readName : MethodName := ⟨RX7, "readName", "()I"⟩
abbrev cX7_fail : ByteArray := prog_9_method_21_code
def yX7_fail : MethodName := ⟨RX7, "fail", "(I)V"⟩
abbrev cX7_failAt : ByteArray := prog_9_method_22_code
def yX7_failAt : MethodName := ⟨RX7, "failAt", "(II)V"⟩
abbrev cX7_kindOf : ByteArray := prog_9_method_23_code
def yX7_kindOf : MethodName := ⟨RX7, "kindOf", "(I)LLeaseLedger$Kind;"⟩
abbrev cX7_advance : ByteArray := prog_9_method_24_code
def yX7_advance : MethodName := ⟨RX7, "advance", "()V"⟩
abbrev cX7_advanceWord : ByteArray := prog_9_method_25_code
def yX7_advanceWord : MethodName := ⟨RX7, "advanceWord", "()V"⟩
abbrev cX7_advanceNumber : ByteArray := prog_9_method_26_code
def yX7_advanceNumber : MethodName := ⟨RX7, "advanceNumber", "()V"⟩
abbrev cX7_tokenAt : ByteArray := prog_9_method_27_code
def yX7_tokenAt : MethodName := ⟨RX7, "tokenAt", "(I)I"⟩
def RX8 : String := "LeaseLedger$Row"
def TX8 : u_T := fun k => match k with
  | 0 => ("LeaseLedger$Row", "highs", "[J", true)
  | 1 => ("LeaseLedger$Row", "lows", "[J", true)
  | _ => ("LeaseLedger$Row", "held", "LLeaseLedger$Amount;", true)
def tyX8 : Nat → FieldType := fun k => match k with
  | 0 => .array .long
  | 1 => .array .long
  | _ => .object "LeaseLedger$Amount"
abbrev wsX80 : List Cond := u_ws RX8 TX8 3
theorem nmX8 : ∀ a, a < 3 → ∀ b, b < 3 → a ≠ b → (TX8 a).2.1 ≠ (TX8 b).2.1 := by decide +kernel
theorem tyX8_ok : ∀ k, k < 3 → parseFieldDescriptor (TX8 k).2.2.1 = some (tyX8 k) := by decide +kernel
abbrev cX8_init : ByteArray := prog_10_method_1_code
def yX8_init : MethodName := ⟨RX8, "<init>", "()V"⟩
abbrev cX8_copyFrom : ByteArray := prog_10_method_2_code
def yX8_copyFrom : MethodName := ⟨RX8, "copyFrom", "(LLeaseLedger$Row;)V"⟩
abbrev cX8_fill : ByteArray := prog_10_method_3_code
def yX8_fill : MethodName := ⟨RX8, "fill", "(IJ)V"⟩
abbrev cX8_copyTo : ByteArray := prog_10_method_4_code
def yX8_copyTo : MethodName := ⟨RX8, "copyTo", "(ILLeaseLedger$Amount;)V"⟩
abbrev cX8_addTo : ByteArray := prog_10_method_5_code
def yX8_addTo : MethodName := ⟨RX8, "addTo", "(ILLeaseLedger$Amount;)V"⟩
abbrev cX8_put : ByteArray := prog_10_method_6_code
def yX8_put : MethodName := ⟨RX8, "put", "(ILLeaseLedger$Amount;)V"⟩
abbrev cX8_setAt : ByteArray := prog_10_method_7_code
def yX8_setAt : MethodName := ⟨RX8, "setAt", "(IJ)V"⟩
abbrev cX8_addAt : ByteArray := prog_10_method_8_code
def yX8_addAt : MethodName := ⟨RX8, "addAt", "(IJ)V"⟩
abbrev cX8_repeat : ByteArray := prog_10_method_9_code
def yX8_repeat : MethodName := ⟨RX8, "repeat", "(I)V"⟩
abbrev cX8_move : ByteArray := prog_10_method_10_code
def yX8_move : MethodName := ⟨RX8, "move", "(II)V"⟩
abbrev cX8_shareDownOf : ByteArray := prog_10_method_11_code
def yX8_shareDownOf : MethodName := ⟨RX8, "shareDownOf", "(LLeaseLedger$Row;IIJJ)V"⟩
def RX9 : String := "LeaseLedger"
def TX9 : u_T := fun k => match k with
  | 0 => ("LeaseLedger", "tape", "[B", true)
  | 1 => ("LeaseLedger", "tapeSize", "I", false)
  | 2 => ("LeaseLedger", "book", "LLeaseLedger$Book;", false)
  | 3 => ("LeaseLedger", "spare", "LLeaseLedger$Book;", false)
  | 4 => ("LeaseLedger", "reader", "LLeaseLedger$Reader;", true)
  | 5 => ("LeaseLedger", "image", "LLeaseLedger$Book;", true)
  | 6 => ("LeaseLedger", "imageKept", "Z", false)
  | 7 => ("LeaseLedger", "past", "[LLeaseLedger$Book;", true)
  | 8 => ("LeaseLedger", "pastFirst", "I", false)
  | 9 => ("LeaseLedger", "pastCount", "I", false)
  | 10 => ("LeaseLedger", "first", "LLeaseLedger$Amount;", true)
  | 11 => ("LeaseLedger", "second", "LLeaseLedger$Amount;", true)
  | _ => ("LeaseLedger", "third", "LLeaseLedger$Amount;", true)
def tyX9 : Nat → FieldType := fun k => match k with
  | 0 => .array .byte
  | 1 => .int
  | 2 => .object "LeaseLedger$Book"
  | 3 => .object "LeaseLedger$Book"
  | 4 => .object "LeaseLedger$Reader"
  | 5 => .object "LeaseLedger$Book"
  | 6 => .boolean
  | 7 => .array (.object "LeaseLedger$Book")
  | 8 => .int
  | 9 => .int
  | 10 => .object "LeaseLedger$Amount"
  | 11 => .object "LeaseLedger$Amount"
  | _ => .object "LeaseLedger$Amount"
abbrev wsX90 : List Cond := u_ws RX9 TX9 13
theorem nmX9 : ∀ a, a < 13 → ∀ b, b < 13 → a ≠ b → (TX9 a).2.1 ≠ (TX9 b).2.1 := by decide +kernel
theorem tyX9_ok : ∀ k, k < 13 → parseFieldDescriptor (TX9 k).2.2.1 = some (tyX9 k) := by decide +kernel
abbrev cX9_init : ByteArray := prog_1_method_1_code
def yX9_init : MethodName := ⟨RX9, "<init>", "()V"⟩
abbrev cX9_feed : ByteArray := prog_1_method_2_code
def yX9_feed : MethodName := ⟨RX9, "feed", "(IIIII)I"⟩
abbrev cX9_text : ByteArray := prog_1_method_3_code
def yX9_text : MethodName := ⟨RX9, "text", "(I)I"⟩
abbrev cX9_fault : ByteArray := prog_1_method_4_code
def yX9_fault : MethodName := ⟨RX9, "fault", "(I)I"⟩
abbrev cX9_named : ByteArray := prog_1_method_5_code
def yX9_named : MethodName := ⟨RX9, "named", "(I)I"⟩
abbrev cX9_go : ByteArray := prog_1_method_6_code
def yX9_go : MethodName := ⟨RX9, "go", "(I)I"⟩
abbrev cX9_lease : ByteArray := prog_1_method_7_code
def yX9_lease : MethodName := ⟨RX9, "lease", "(II)I"⟩
abbrev cX9_amount : ByteArray := prog_1_method_8_code
def yX9_amount : MethodName := ⟨RX9, "amount", "(II)J"⟩
abbrev cX9_due : ByteArray := prog_1_method_9_code
def yX9_due : MethodName := ⟨RX9, "due", "(II)J"⟩
abbrev cX9_worth : ByteArray := prog_1_method_10_code
def yX9_worth : MethodName := ⟨RX9, "worth", "(III)J"⟩
abbrev cX9_index : ByteArray := prog_1_method_11_code
def yX9_index : MethodName := ⟨RX9, "index", "(I)I"⟩
abbrev cX9_account : ByteArray := prog_1_method_12_code
def yX9_account : MethodName := ⟨RX9, "account", "(I)J"⟩
abbrev cX9_entry : ByteArray := prog_1_method_13_code
def yX9_entry : MethodName := ⟨RX9, "entry", "(II)J"⟩
abbrev cX9_rate : ByteArray := prog_1_method_14_code
def yX9_rate : MethodName := ⟨RX9, "rate", "(II)J"⟩
abbrev cX9_extend : ByteArray := prog_1_method_15_code
def yX9_extend : MethodName := ⟨RX9, "extend", "(II)J"⟩
abbrev cX9_take : ByteArray := prog_1_method_16_code
def yX9_take : MethodName := ⟨RX9, "take", "(I)J"⟩
abbrev cX9_part : ByteArray := prog_1_method_17_code
def yX9_part : MethodName := ⟨RX9, "part", "(II)J"⟩
abbrev cX9_end : ByteArray := prog_1_method_18_code
def yX9_end : MethodName := ⟨RX9, "end", "(I)J"⟩
abbrev cX9_down : ByteArray := prog_1_method_19_code
def yX9_down : MethodName := ⟨RX9, "down", "(IJ)J"⟩
abbrev cX9_putOff : ByteArray := prog_1_method_20_code
def yX9_putOff : MethodName := ⟨RX9, "putOff", "(III)J"⟩
abbrev cX9_become : ByteArray := prog_1_method_21_code
def yX9_become : MethodName := ⟨RX9, "become", "(I)I"⟩
abbrev cX9_plan : ByteArray := prog_1_method_22_code
def yX9_plan : MethodName := ⟨RX9, "plan", "(III)J"⟩
abbrev cX9_all : ByteArray := prog_1_method_23_code
def yX9_all : MethodName := ⟨RX9, "all", "(I)J"⟩
abbrev cX9_soon : ByteArray := prog_1_method_24_code
def yX9_soon : MethodName := ⟨RX9, "soon", "(II)J"⟩
abbrev cX9_sum : ByteArray := prog_1_method_25_code
def yX9_sum : MethodName := ⟨RX9, "sum", "(II)J"⟩
abbrev cX9_moved : ByteArray := prog_1_method_26_code
def yX9_moved : MethodName := ⟨RX9, "moved", "(II)J"⟩
abbrev cX9_choose : ByteArray := prog_1_method_27_code
def yX9_choose : MethodName := ⟨RX9, "choose", "(I)I"⟩
abbrev cX9_life : ByteArray := prog_1_method_28_code
def yX9_life : MethodName := ⟨RX9, "life", "(IZ)J"⟩
abbrev cX9_peak : ByteArray := prog_1_method_29_code
def yX9_peak : MethodName := ⟨RX9, "peak", "(I)J"⟩
abbrev cX9_partFor : ByteArray := prog_1_method_30_code
def yX9_partFor : MethodName := ⟨RX9, "partFor", "(IJ)I"⟩
abbrev cX9_latest : ByteArray := prog_1_method_31_code
def yX9_latest : MethodName := ⟨RX9, "latest", "(II)I"⟩
abbrev cX9_half : ByteArray := prog_1_method_32_code
def yX9_half : MethodName := ⟨RX9, "half", "(I)I"⟩
abbrev cX9_cash : ByteArray := prog_1_method_33_code
def yX9_cash : MethodName := ⟨RX9, "cash", "(II)J"⟩
abbrev cX9_ifIndex : ByteArray := prog_1_method_34_code
def yX9_ifIndex : MethodName := ⟨RX9, "ifIndex", "(II)J"⟩
abbrev cX9_ifTaken : ByteArray := prog_1_method_35_code
def yX9_ifTaken : MethodName := ⟨RX9, "ifTaken", "(I)J"⟩
abbrev cX9_yields : ByteArray := prog_1_method_36_code
def yX9_yields : MethodName := ⟨RX9, "yields", "(IIJ)I"⟩
abbrev cX9_level : ByteArray := prog_1_method_37_code
def yX9_level : MethodName := ⟨RX9, "level", "(IJ)I"⟩
abbrev cX9_heaviest : ByteArray := prog_1_method_38_code
def yX9_heaviest : MethodName := ⟨RX9, "heaviest", "()I"⟩
abbrev cX9_chance : ByteArray := prog_1_method_39_code
def yX9_chance : MethodName := ⟨RX9, "chance", "(III)J"⟩
abbrev cX9_undo : ByteArray := prog_1_method_40_code
def yX9_undo : MethodName := ⟨RX9, "undo", "()I"⟩
abbrev cX9_keep : ByteArray := prog_1_method_41_code
def yX9_keep : MethodName := ⟨RX9, "keep", "()I"⟩
abbrev cX9_back : ByteArray := prog_1_method_42_code
def yX9_back : MethodName := ⟨RX9, "back", "()I"⟩
abbrev cX9_count : ByteArray := prog_1_method_43_code
def yX9_count : MethodName := ⟨RX9, "count", "(I)I"⟩
abbrev cX9_putOnTape : ByteArray := prog_1_method_44_code
def yX9_putOnTape : MethodName := ⟨RX9, "putOnTape", "(I)V"⟩
abbrev cX9_leaseAt : ByteArray := prog_1_method_45_code
def yX9_leaseAt : MethodName := ⟨RX9, "leaseAt", "(I)LLeaseLedger$Lease;"⟩
abbrev cX9_runningAt : ByteArray := prog_1_method_46_code
def yX9_runningAt : MethodName := ⟨RX9, "runningAt", "(I)LLeaseLedger$Lease;"⟩
abbrev cX9_coming : ByteArray := prog_1_method_47_code
def yX9_coming : MethodName := ⟨RX9, "coming", "(I)I"⟩
abbrev cX9_bookIn : ByteArray := prog_1_method_48_code
def yX9_bookIn : MethodName := ⟨RX9, "bookIn", "(I)LLeaseLedger$Book;"⟩
abbrev cX9_remember : ByteArray := prog_1_method_49_code
def yX9_remember : MethodName := ⟨RX9, "remember", "()V"⟩
abbrev cX9_forgetPast : ByteArray := prog_1_method_50_code
def yX9_forgetPast : MethodName := ⟨RX9, "forgetPast", "()V"⟩
abbrev cX9_isIndex : ByteArray := prog_1_method_51_code
def yX9_isIndex : MethodName := ⟨RX9, "isIndex", "(I)Z"⟩
abbrev cX9_isSort : ByteArray := prog_1_method_52_code
def yX9_isSort : MethodName := ⟨RX9, "isSort", "(I)Z"⟩
abbrev cX9_isWorth : ByteArray := prog_1_method_53_code
def yX9_isWorth : MethodName := ⟨RX9, "isWorth", "(J)Z"⟩
abbrev cX9_leastTerm : ByteArray := prog_1_method_54_code
def yX9_leastTerm : MethodName := ⟨RX9, "leastTerm", "(LLeaseLedger$Amount;LLeaseLedger$Amount;Z)J"⟩
def RX10 : String := "LeaseLedgerModel"
def TX10 : u_T := fun k => match k with
  | 0 => ("LeaseLedgerModel", "thrown", "I", false)
  | 1 => ("LeaseLedgerModel", "tape", "[I", true)
  | 2 => ("LeaseLedgerModel", "taped", "I", false)
  | 3 => ("LeaseLedgerModel", "number", "[I", true)
  | 4 => ("LeaseLedgerModel", "name", "[I", true)
  | 5 => ("LeaseLedgerModel", "starts", "[I", true)
  | 6 => ("LeaseLedgerModel", "term", "[I", true)
  | 7 => ("LeaseLedgerModel", "toldRate", "[I", true)
  | 8 => ("LeaseLedgerModel", "marks", "[I", true)
  | 9 => ("LeaseLedgerModel", "fair", "[I", true)
  | 10 => ("LeaseLedgerModel", "fee", "[I", true)
  | 11 => ("LeaseLedgerModel", "toldPay", "[I", true)
  | 12 => ("LeaseLedgerModel", "changeAt", "[I", true)
  | 13 => ("LeaseLedgerModel", "changeTo", "[I", true)
  | 14 => ("LeaseLedgerModel", "optionOf", "[I", true)
  | 15 => ("LeaseLedgerModel", "optionMany", "[I", true)
  | 16 => ("LeaseLedgerModel", "optionPays", "[I", true)
  | 17 => ("LeaseLedgerModel", "lines", "I", false)
  | 18 => ("LeaseLedgerModel", "size", "I", false)
  | 19 => ("LeaseLedgerModel", "at", "I", false)
  | 20 => ("LeaseLedgerModel", "place", "I", false)
  | 21 => ("LeaseLedgerModel", "sort", "I", false)
  | 22 => ("LeaseLedgerModel", "value", "I", false)
  | 23 => ("LeaseLedgerModel", "fault", "I", false)
  | 24 => ("LeaseLedgerModel", "faultPlace", "I", false)
  | 25 => ("LeaseLedgerModel", "lastFault", "I", false)
  | 26 => ("LeaseLedgerModel", "lastPlace", "I", false)
  | 27 => ("LeaseLedgerModel", "s", "[J", true)
  | 28 => ("LeaseLedgerModel", "aside", "[J", true)
  | 29 => ("LeaseLedgerModel", "further", "[J", true)
  | 30 => ("LeaseLedgerModel", "image", "[J", true)
  | 31 => ("LeaseLedgerModel", "kept", "[J", true)
  | 32 => ("LeaseLedgerModel", "undoable", "I", false)
  | 33 => ("LeaseLedgerModel", "hasImage", "Z", false)
  | 34 => ("LeaseLedgerModel", "isFound", "[Z", true)
  | 35 => ("LeaseLedgerModel", "put", "[J", true)
  | _ => ("LeaseLedgerModel", "drawn", "I", false)
def tyX10 : Nat → FieldType := fun k => match k with
  | 0 => .int
  | 1 => .array .int
  | 2 => .int
  | 3 => .array .int
  | 4 => .array .int
  | 5 => .array .int
  | 6 => .array .int
  | 7 => .array .int
  | 8 => .array .int
  | 9 => .array .int
  | 10 => .array .int
  | 11 => .array .int
  | 12 => .array .int
  | 13 => .array .int
  | 14 => .array .int
  | 15 => .array .int
  | 16 => .array .int
  | 17 => .int
  | 18 => .int
  | 19 => .int
  | 20 => .int
  | 21 => .int
  | 22 => .int
  | 23 => .int
  | 24 => .int
  | 25 => .int
  | 26 => .int
  | 27 => .array .long
  | 28 => .array .long
  | 29 => .array .long
  | 30 => .array .long
  | 31 => .array .long
  | 32 => .int
  | 33 => .boolean
  | 34 => .array .boolean
  | 35 => .array .long
  | _ => .int
abbrev wsX100 : List Cond := u_ws RX10 TX10 37
theorem nmX10 : ∀ a, a < 37 → ∀ b, b < 37 → a ≠ b → (TX10 a).2.1 ≠ (TX10 b).2.1 := by decide +kernel
theorem tyX10_ok : ∀ k, k < 37 → parseFieldDescriptor (TX10 k).2.2.1 = some (tyX10 k) := by decide +kernel
abbrev cX10_init : ByteArray := prog_12_method_1_code
def yX10_init : MethodName := ⟨RX10, "<init>", "()V"⟩
abbrev cX10_feed : ByteArray := prog_12_method_3_code
def yX10_feed : MethodName := ⟨RX10, "feed", "(IIIII)I"⟩
abbrev cX10_here : ByteArray := prog_12_method_4_code
def yX10_here : MethodName := ⟨RX10, "here", "()I"⟩
abbrev cX10_isSmall : ByteArray := prog_12_method_5_code
def yX10_isSmall : MethodName := ⟨RX10, "isSmall", "(I)Z"⟩
abbrev cX10_isDigit : ByteArray := prog_12_method_6_code
def yX10_isDigit : MethodName := ⟨RX10, "isDigit", "(I)Z"⟩
abbrev cX10_token : ByteArray := prog_12_method_7_code
def yX10_token : MethodName := ⟨RX10, "token", "()V"⟩
abbrev cX10_wordHere : ByteArray := prog_12_method_8_code
def yX10_wordHere : MethodName := ⟨RX10, "wordHere", "()I"⟩
abbrev cX10_nameHere : ByteArray := prog_12_method_9_code
def yX10_nameHere : MethodName := ⟨RX10, "nameHere", "()V"⟩
abbrev cX10_wrong : ByteArray := prog_12_method_10_code
def yX10_wrong : MethodName := ⟨RX10, "wrong", "(I)V"⟩
abbrev cX10_goOn : ByteArray := prog_12_method_11_code
def yX10_goOn : MethodName := ⟨RX10, "goOn", "()V"⟩
abbrev cX10_numeral : ByteArray := prog_12_method_12_code
def yX10_numeral : MethodName := ⟨RX10, "numeral", "(II)I"⟩
abbrev cX10_reading : ByteArray := prog_12_method_13_code
def yX10_reading : MethodName := ⟨RX10, "reading", "(I)I"⟩
abbrev cX10_reads : ByteArray := prog_12_method_14_code
def yX10_reads : MethodName := ⟨RX10, "reads", "(II)V"⟩
abbrev cX10_namedAt : ByteArray := prog_12_method_15_code
def yX10_namedAt : MethodName := ⟨RX10, "namedAt", "(III)I"⟩
abbrev cX10_readLease : ByteArray := prog_12_method_16_code
def yX10_readLease : MethodName := ⟨RX10, "readLease", "()V"⟩
abbrev cX10_atHand : ByteArray := prog_12_method_17_code
def yX10_atHand : MethodName := ⟨RX10, "atHand", "()I"⟩
abbrev cX10_readPay : ByteArray := prog_12_method_18_code
def yX10_readPay : MethodName := ⟨RX10, "readPay", "()V"⟩
abbrev cX10_readMark : ByteArray := prog_12_method_19_code
def yX10_readMark : MethodName := ⟨RX10, "readMark", "(I)V"⟩
abbrev cX10_readFair : ByteArray := prog_12_method_20_code
def yX10_readFair : MethodName := ⟨RX10, "readFair", "()V"⟩
abbrev cX10_readFee : ByteArray := prog_12_method_21_code
def yX10_readFee : MethodName := ⟨RX10, "readFee", "()V"⟩
abbrev cX10_readChange : ByteArray := prog_12_method_22_code
def yX10_readChange : MethodName := ⟨RX10, "readChange", "()V"⟩
abbrev cX10_readOption : ByteArray := prog_12_method_23_code
def yX10_readOption : MethodName := ⟨RX10, "readOption", "()V"⟩
abbrev cX10_readSeed : ByteArray := prog_12_method_24_code
def yX10_readSeed : MethodName := ⟨RX10, "readSeed", "()V"⟩
abbrev cX10_readLine : ByteArray := prog_12_method_25_code
def yX10_readLine : MethodName := ⟨RX10, "readLine", "()V"⟩
abbrev cX10_freshText : ByteArray := prog_12_method_26_code
def yX10_freshText : MethodName := ⟨RX10, "freshText", "()V"⟩
abbrev cX10_readText : ByteArray := prog_12_method_27_code
def yX10_readText : MethodName := ⟨RX10, "readText", "(I)V"⟩
abbrev cX10_takeText : ByteArray := prog_12_method_28_code
def yX10_takeText : MethodName := ⟨RX10, "takeText", "()V"⟩
abbrev cX10_text : ByteArray := prog_12_method_29_code
def yX10_text : MethodName := ⟨RX10, "text", "(I)I"⟩
abbrev cX10_fault : ByteArray := prog_12_method_30_code
def yX10_fault : MethodName := ⟨RX10, "fault", "(I)I"⟩
abbrev cX10_leases : ByteArray := prog_12_method_31_code
def yX10_leases : MethodName := ⟨RX10, "leases", "()I"⟩
abbrev cX10_named : ByteArray := prog_12_method_32_code
def yX10_named : MethodName := ⟨RX10, "named", "(I)I"⟩
abbrev cX10_copies : ByteArray := prog_12_method_33_code
def yX10_copies : MethodName := ⟨RX10, "copies", "([JI[JI)V"⟩
abbrev cX10_begins : ByteArray := prog_12_method_34_code
def yX10_begins : MethodName := ⟨RX10, "begins", "()V"⟩
abbrev cX10_remembers : ByteArray := prog_12_method_35_code
def yX10_remembers : MethodName := ⟨RX10, "remembers", "()V"⟩
abbrev cX10_rounded : ByteArray := prog_12_method_36_code
def yX10_rounded : MethodName := ⟨RX10, "rounded", "(JJ)J"⟩
abbrev cX10_isEarly : ByteArray := prog_12_method_37_code
def yX10_isEarly : MethodName := ⟨RX10, "isEarly", "(I)Z"⟩
abbrev cX10_isTied : ByteArray := prog_12_method_38_code
def yX10_isTied : MethodName := ⟨RX10, "isTied", "(I)Z"⟩
abbrev cX10_worthBy : ByteArray := prog_12_method_39_code
def yX10_worthBy : MethodName := ⟨RX10, "worthBy", "(IIJJ)J"⟩
abbrev cX10_rateFor : ByteArray := prog_12_method_40_code
def yX10_rateFor : MethodName := ⟨RX10, "rateFor", "(IIJ)I"⟩
abbrev cX10_left : ByteArray := prog_12_method_41_code
def yX10_left : MethodName := ⟨RX10, "left", "(I)I"⟩
abbrev cX10_isOn : ByteArray := prog_12_method_42_code
def yX10_isOn : MethodName := ⟨RX10, "isOn", "(I)Z"⟩
abbrev cX10_entry : ByteArray := prog_12_method_43_code
def yX10_entry : MethodName := ⟨RX10, "entry", "(IIJJJJJJ)V"⟩
abbrev cX10_remeasures : ByteArray := prog_12_method_44_code
def yX10_remeasures : MethodName := ⟨RX10, "remeasures", "(I)J"⟩
abbrev cX10_indexes : ByteArray := prog_12_method_45_code
def yX10_indexes : MethodName := ⟨RX10, "indexes", "(IJ)V"⟩
abbrev cX10_indexNow : ByteArray := prog_12_method_46_code
def yX10_indexNow : MethodName := ⟨RX10, "indexNow", "()J"⟩
abbrev cX10_pays : ByteArray := prog_12_method_47_code
def yX10_pays : MethodName := ⟨RX10, "pays", "(I)V"⟩
abbrev cX10_starts1 : ByteArray := prog_12_method_48_code
def yX10_starts1 : MethodName := ⟨RX10, "starts1", "(I)V"⟩
abbrev cX10_periodGoes : ByteArray := prog_12_method_49_code
def yX10_periodGoes : MethodName := ⟨RX10, "periodGoes", "()V"⟩
abbrev cX10_go : ByteArray := prog_12_method_50_code
def yX10_go : MethodName := ⟨RX10, "go", "(I)I"⟩
abbrev cX10_isLease : ByteArray := prog_12_method_51_code
def yX10_isLease : MethodName := ⟨RX10, "isLease", "(I)Z"⟩
abbrev cX10_isRunning : ByteArray := prog_12_method_52_code
def yX10_isRunning : MethodName := ⟨RX10, "isRunning", "(I)Z"⟩
abbrev cX10_lease : ByteArray := prog_12_method_53_code
def yX10_lease : MethodName := ⟨RX10, "lease", "(II)I"⟩
abbrev cX10_amount : ByteArray := prog_12_method_54_code
def yX10_amount : MethodName := ⟨RX10, "amount", "(II)J"⟩
abbrev cX10_isOwn : ByteArray := prog_12_method_55_code
def yX10_isOwn : MethodName := ⟨RX10, "isOwn", "(II)Z"⟩
abbrev cX10_due : ByteArray := prog_12_method_56_code
def yX10_due : MethodName := ⟨RX10, "due", "(II)J"⟩
abbrev cX10_worth : ByteArray := prog_12_method_57_code
def yX10_worth : MethodName := ⟨RX10, "worth", "(III)J"⟩
abbrev cX10_index : ByteArray := prog_12_method_58_code
def yX10_index : MethodName := ⟨RX10, "index", "(I)I"⟩
abbrev cX10_account : ByteArray := prog_12_method_59_code
def yX10_account : MethodName := ⟨RX10, "account", "(I)J"⟩
abbrev cX10_entry_ : ByteArray := prog_12_method_60_code
def yX10_entry_ : MethodName := ⟨RX10, "entry", "(II)J"⟩
abbrev cX10_sum : ByteArray := prog_12_method_61_code
def yX10_sum : MethodName := ⟨RX10, "sum", "(II)J"⟩
abbrev cX10_moved : ByteArray := prog_12_method_62_code
def yX10_moved : MethodName := ⟨RX10, "moved", "(II)J"⟩
abbrev cX10_rate : ByteArray := prog_12_method_63_code
def yX10_rate : MethodName := ⟨RX10, "rate", "(II)J"⟩
abbrev cX10_adds : ByteArray := prog_12_method_64_code
def yX10_adds : MethodName := ⟨RX10, "adds", "(IIJJ)V"⟩
abbrev cX10_canBeLonger : ByteArray := prog_12_method_65_code
def yX10_canBeLonger : MethodName := ⟨RX10, "canBeLonger", "(II)Z"⟩
abbrev cX10_extend : ByteArray := prog_12_method_66_code
def yX10_extend : MethodName := ⟨RX10, "extend", "(II)J"⟩
abbrev cX10_canTake : ByteArray := prog_12_method_67_code
def yX10_canTake : MethodName := ⟨RX10, "canTake", "(I)Z"⟩
abbrev cX10_takes : ByteArray := prog_12_method_68_code
def yX10_takes : MethodName := ⟨RX10, "takes", "(I)J"⟩
abbrev cX10_take : ByteArray := prog_12_method_69_code
def yX10_take : MethodName := ⟨RX10, "take", "(I)J"⟩
abbrev cX10_part : ByteArray := prog_12_method_70_code
def yX10_part : MethodName := ⟨RX10, "part", "(II)J"⟩
abbrev cX10_gives : ByteArray := prog_12_method_71_code
def yX10_gives : MethodName := ⟨RX10, "gives", "(IIJJ)V"⟩
abbrev cX10_end : ByteArray := prog_12_method_72_code
def yX10_end : MethodName := ⟨RX10, "end", "(I)J"⟩
abbrev cX10_down : ByteArray := prog_12_method_73_code
def yX10_down : MethodName := ⟨RX10, "down", "(IJ)J"⟩
abbrev cX10_putOff : ByteArray := prog_12_method_74_code
def yX10_putOff : MethodName := ⟨RX10, "putOff", "(III)J"⟩
abbrev cX10_becomes : ByteArray := prog_12_method_75_code
def yX10_becomes : MethodName := ⟨RX10, "becomes", "(J)V"⟩
abbrev cX10_become : ByteArray := prog_12_method_76_code
def yX10_become : MethodName := ⟨RX10, "become", "(I)I"⟩
abbrev cX10_ahead : ByteArray := prog_12_method_77_code
def yX10_ahead : MethodName := ⟨RX10, "ahead", "(I)V"⟩
abbrev cX10_back1 : ByteArray := prog_12_method_78_code
def yX10_back1 : MethodName := ⟨RX10, "back1", "()V"⟩
abbrev cX10_areAhead : ByteArray := prog_12_method_79_code
def yX10_areAhead : MethodName := ⟨RX10, "areAhead", "(I)Z"⟩
abbrev cX10_plan : ByteArray := prog_12_method_80_code
def yX10_plan : MethodName := ⟨RX10, "plan", "(III)J"⟩
abbrev cX10_owedAll : ByteArray := prog_12_method_81_code
def yX10_owedAll : MethodName := ⟨RX10, "owedAll", "()J"⟩
abbrev cX10_all : ByteArray := prog_12_method_82_code
def yX10_all : MethodName := ⟨RX10, "all", "(I)J"⟩
abbrev cX10_soon : ByteArray := prog_12_method_83_code
def yX10_soon : MethodName := ⟨RX10, "soon", "(II)J"⟩
abbrev cX10_half : ByteArray := prog_12_method_84_code
def yX10_half : MethodName := ⟨RX10, "half", "(I)I"⟩
abbrev cX10_divisor : ByteArray := prog_12_method_85_code
def yX10_divisor : MethodName := ⟨RX10, "divisor", "(JJ)J"⟩
abbrev cX10_life : ByteArray := prog_12_method_86_code
def yX10_life : MethodName := ⟨RX10, "life", "(IZ)J"⟩
abbrev cX10_peak : ByteArray := prog_12_method_87_code
def yX10_peak : MethodName := ⟨RX10, "peak", "(I)J"⟩
abbrev cX10_partFor : ByteArray := prog_12_method_88_code
def yX10_partFor : MethodName := ⟨RX10, "partFor", "(IJ)I"⟩
abbrev cX10_latest : ByteArray := prog_12_method_89_code
def yX10_latest : MethodName := ⟨RX10, "latest", "(II)I"⟩
abbrev cX10_paidAll : ByteArray := prog_12_method_90_code
def yX10_paidAll : MethodName := ⟨RX10, "paidAll", "()J"⟩
abbrev cX10_cash : ByteArray := prog_12_method_91_code
def yX10_cash : MethodName := ⟨RX10, "cash", "(II)J"⟩
abbrev cX10_ifIndex : ByteArray := prog_12_method_92_code
def yX10_ifIndex : MethodName := ⟨RX10, "ifIndex", "(II)J"⟩
abbrev cX10_ifTaken : ByteArray := prog_12_method_93_code
def yX10_ifTaken : MethodName := ⟨RX10, "ifTaken", "(I)J"⟩
abbrev cX10_takesAll : ByteArray := prog_12_method_94_code
def yX10_takesAll : MethodName := ⟨RX10, "takesAll", "(II)Z"⟩
abbrev cX10_choose : ByteArray := prog_12_method_95_code
def yX10_choose : MethodName := ⟨RX10, "choose", "(I)I"⟩
abbrev cX10_yields : ByteArray := prog_12_method_96_code
def yX10_yields : MethodName := ⟨RX10, "yields", "(IIJ)I"⟩
abbrev cX10_level : ByteArray := prog_12_method_97_code
def yX10_level : MethodName := ⟨RX10, "level", "(IJ)I"⟩
abbrev cX10_heaviest : ByteArray := prog_12_method_98_code
def yX10_heaviest : MethodName := ⟨RX10, "heaviest", "()I"⟩
abbrev cX10_draw : ByteArray := prog_12_method_99_code
def yX10_draw : MethodName := ⟨RX10, "draw", "(I)I"⟩
abbrev cX10_held : ByteArray := prog_12_method_100_code
def yX10_held : MethodName := ⟨RX10, "held", "(J)J"⟩
abbrev cX10_chance : ByteArray := prog_12_method_101_code
def yX10_chance : MethodName := ⟨RX10, "chance", "(III)J"⟩
abbrev cX10_undo : ByteArray := prog_12_method_102_code
def yX10_undo : MethodName := ⟨RX10, "undo", "()I"⟩
abbrev cX10_keep : ByteArray := prog_12_method_103_code
def yX10_keep : MethodName := ⟨RX10, "keep", "()I"⟩
abbrev cX10_back : ByteArray := prog_12_method_104_code
def yX10_back : MethodName := ⟨RX10, "back", "()I"⟩
abbrev cX10_running : ByteArray := prog_12_method_105_code
def yX10_running : MethodName := ⟨RX10, "running", "()I"⟩
abbrev cX10_count : ByteArray := prog_12_method_106_code
def yX10_count : MethodName := ⟨RX10, "count", "(I)I"⟩
