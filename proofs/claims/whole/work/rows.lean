section
-- ===== PART A: goes FIRST, ahead of the names: the tables' words, and 'selects' of the private methods out of them =====
/-- a private method of a class that the tables say can be made, by its rows of tables_1 -/
def lw_okq (q : MethodName × Nat) : Prop := (q.1.cls ≠ "java/lang/invoke/MethodHandle" ∧ q.1.cls ≠ "java/lang/invoke/VarHandle") ∧ Cond.instantiable q.1.cls q.2 ∈ tables_1 ∧ Cond.privateMethod q.1 ∈ tables_1 ∧ Cond.instanceMethod q.1 ∈ tables_1
theorem lw_p0 : lw_okq (⟨"GasLedger", "refusalOf", "(IIIIII)I"⟩, 14) := ⟨⟨by decide +kernel, by decide +kernel⟩, List.mem_of_getElem? (i := 12) (by decide +kernel), List.mem_of_getElem? (i := 291) (by decide +kernel), List.mem_of_getElem? (i := 292) (by decide +kernel)⟩
theorem lw_p1 : lw_okq (⟨"GasLedger", "perform", "(IIIIII)I"⟩, 14) := ⟨⟨by decide +kernel, by decide +kernel⟩, List.mem_of_getElem? (i := 12) (by decide +kernel), List.mem_of_getElem? (i := 295) (by decide +kernel), List.mem_of_getElem? (i := 296) (by decide +kernel)⟩
theorem lw_p2 : lw_okq (⟨"GasLedger$Machine", "enter", "(IIIIII)V"⟩, 6) := ⟨⟨by decide +kernel, by decide +kernel⟩, List.mem_of_getElem? (i := 20) (by decide +kernel), List.mem_of_getElem? (i := 303) (by decide +kernel), List.mem_of_getElem? (i := 304) (by decide +kernel)⟩
theorem lw_p3 : lw_okq (⟨"GasLedger$Machine", "step", "(LGasLedger$Frame;)V"⟩, 6) := ⟨⟨by decide +kernel, by decide +kernel⟩, List.mem_of_getElem? (i := 20) (by decide +kernel), List.mem_of_getElem? (i := 317) (by decide +kernel), List.mem_of_getElem? (i := 318) (by decide +kernel)⟩
theorem lw_p4 : lw_okq (⟨"GasLedger$Machine", "priceOf", "(LGasLedger$Frame;I)I"⟩, 6) := ⟨⟨by decide +kernel, by decide +kernel⟩, List.mem_of_getElem? (i := 20) (by decide +kernel), List.mem_of_getElem? (i := 326) (by decide +kernel), List.mem_of_getElem? (i := 327) (by decide +kernel)⟩
theorem lw_p5 : lw_okq (⟨"GasLedger$Machine", "jump", "(LGasLedger$Frame;I)V"⟩, 6) := ⟨⟨by decide +kernel, by decide +kernel⟩, List.mem_of_getElem? (i := 20) (by decide +kernel), List.mem_of_getElem? (i := 372) (by decide +kernel), List.mem_of_getElem? (i := 373) (by decide +kernel)⟩
theorem lw_p6 : lw_okq (⟨"GasLedger$Machine", "jumpIf", "(LGasLedger$Frame;)V"⟩, 6) := ⟨⟨by decide +kernel, by decide +kernel⟩, List.mem_of_getElem? (i := 20) (by decide +kernel), List.mem_of_getElem? (i := 376) (by decide +kernel), List.mem_of_getElem? (i := 377) (by decide +kernel)⟩
theorem lw_p7 : lw_okq (⟨"GasLedger$Machine", "store", "(LGasLedger$Frame;)V"⟩, 6) := ⟨⟨by decide +kernel, by decide +kernel⟩, List.mem_of_getElem? (i := 20) (by decide +kernel), List.mem_of_getElem? (i := 380) (by decide +kernel), List.mem_of_getElem? (i := 381) (by decide +kernel)⟩
theorem lw_p8 : lw_okq (⟨"GasLedger$Machine", "callOther", "(LGasLedger$Frame;)V"⟩, 6) := ⟨⟨by decide +kernel, by decide +kernel⟩, List.mem_of_getElem? (i := 20) (by decide +kernel), List.mem_of_getElem? (i := 385) (by decide +kernel), List.mem_of_getElem? (i := 386) (by decide +kernel)⟩
theorem lw_p9 : lw_okq (⟨"GasLedger$Machine", "canEnter", "(I)Z"⟩, 6) := ⟨⟨by decide +kernel, by decide +kernel⟩, List.mem_of_getElem? (i := 20) (by decide +kernel), List.mem_of_getElem? (i := 389) (by decide +kernel), List.mem_of_getElem? (i := 390) (by decide +kernel)⟩
theorem lw_p10 : lw_okq (⟨"GasLedger$Machine", "pushNoFrame", "(LGasLedger$Frame;)V"⟩, 6) := ⟨⟨by decide +kernel, by decide +kernel⟩, List.mem_of_getElem? (i := 20) (by decide +kernel), List.mem_of_getElem? (i := 394) (by decide +kernel), List.mem_of_getElem? (i := 395) (by decide +kernel)⟩
theorem lw_p11 : lw_okq (⟨"GasLedger$Machine", "takeGas", "(LGasLedger$Frame;I)I"⟩, 6) := ⟨⟨by decide +kernel, by decide +kernel⟩, List.mem_of_getElem? (i := 20) (by decide +kernel), List.mem_of_getElem? (i := 402) (by decide +kernel), List.mem_of_getElem? (i := 403) (by decide +kernel)⟩
theorem lw_p12 : lw_okq (⟨"GasLedger$Machine", "delegate", "(LGasLedger$Frame;)V"⟩, 6) := ⟨⟨by decide +kernel, by decide +kernel⟩, List.mem_of_getElem? (i := 20) (by decide +kernel), List.mem_of_getElem? (i := 406) (by decide +kernel), List.mem_of_getElem? (i := 407) (by decide +kernel)⟩
theorem lw_p13 : lw_okq (⟨"GasLedger$Machine", "create", "(LGasLedger$Frame;)V"⟩, 6) := ⟨⟨by decide +kernel, by decide +kernel⟩, List.mem_of_getElem? (i := 20) (by decide +kernel), List.mem_of_getElem? (i := 410) (by decide +kernel), List.mem_of_getElem? (i := 411) (by decide +kernel)⟩
theorem lw_p14 : lw_okq (⟨"GasLedger$Accounts", "filledSlots", "(I)I"⟩, 6) := ⟨⟨by decide +kernel, by decide +kernel⟩, List.mem_of_getElem? (i := 26) (by decide +kernel), List.mem_of_getElem? (i := 422) (by decide +kernel), List.mem_of_getElem? (i := 423) (by decide +kernel)⟩
theorem lw_p15 : lw_okq (⟨"GasLedger$Machine", "endSelf", "(LGasLedger$Frame;)V"⟩, 6) := ⟨⟨by decide +kernel, by decide +kernel⟩, List.mem_of_getElem? (i := 20) (by decide +kernel), List.mem_of_getElem? (i := 435) (by decide +kernel), List.mem_of_getElem? (i := 436) (by decide +kernel)⟩
def lw_privs_1 : List (MethodName × Nat) := [(⟨"GasLedger", "refusalOf", "(IIIIII)I"⟩, 14), (⟨"GasLedger", "perform", "(IIIIII)I"⟩, 14), (⟨"GasLedger$Machine", "enter", "(IIIIII)V"⟩, 6), (⟨"GasLedger$Machine", "step", "(LGasLedger$Frame;)V"⟩, 6), (⟨"GasLedger$Machine", "priceOf", "(LGasLedger$Frame;I)I"⟩, 6), (⟨"GasLedger$Machine", "jump", "(LGasLedger$Frame;I)V"⟩, 6), (⟨"GasLedger$Machine", "jumpIf", "(LGasLedger$Frame;)V"⟩, 6), (⟨"GasLedger$Machine", "store", "(LGasLedger$Frame;)V"⟩, 6), (⟨"GasLedger$Machine", "callOther", "(LGasLedger$Frame;)V"⟩, 6), (⟨"GasLedger$Machine", "canEnter", "(I)Z"⟩, 6), (⟨"GasLedger$Machine", "pushNoFrame", "(LGasLedger$Frame;)V"⟩, 6), (⟨"GasLedger$Machine", "takeGas", "(LGasLedger$Frame;I)I"⟩, 6), (⟨"GasLedger$Machine", "delegate", "(LGasLedger$Frame;)V"⟩, 6), (⟨"GasLedger$Machine", "create", "(LGasLedger$Frame;)V"⟩, 6), (⟨"GasLedger$Accounts", "filledSlots", "(I)I"⟩, 6), (⟨"GasLedger$Machine", "endSelf", "(LGasLedger$Frame;)V"⟩, 6)]
theorem lw_r1 : ∀ q ∈ lw_privs_1, lw_okq q := List.forall_mem_cons.mpr ⟨lw_p0, List.forall_mem_cons.mpr ⟨lw_p1, List.forall_mem_cons.mpr ⟨lw_p2, List.forall_mem_cons.mpr ⟨lw_p3, List.forall_mem_cons.mpr ⟨lw_p4, List.forall_mem_cons.mpr ⟨lw_p5, List.forall_mem_cons.mpr ⟨lw_p6, List.forall_mem_cons.mpr ⟨lw_p7, List.forall_mem_cons.mpr ⟨lw_p8, List.forall_mem_cons.mpr ⟨lw_p9, List.forall_mem_cons.mpr ⟨lw_p10, List.forall_mem_cons.mpr ⟨lw_p11, List.forall_mem_cons.mpr ⟨lw_p12, List.forall_mem_cons.mpr ⟨lw_p13, List.forall_mem_cons.mpr ⟨lw_p14, List.forall_mem_cons.mpr ⟨lw_p15, fun _ h => absurd h List.not_mem_nil⟩⟩⟩⟩⟩⟩⟩⟩⟩⟩⟩⟩⟩⟩⟩⟩
theorem lw_p16 : lw_okq (⟨"GasLedger$Machine", "resultOf", "(LGasLedger$Frame;II)I"⟩, 6) := ⟨⟨by decide +kernel, by decide +kernel⟩, List.mem_of_getElem? (i := 20) (by decide +kernel), List.mem_of_getElem? (i := 439) (by decide +kernel), List.mem_of_getElem? (i := 440) (by decide +kernel)⟩
theorem lw_p17 : lw_okq (⟨"GasLedger$Machine", "leave", "(LGasLedger$Frame;)V"⟩, 6) := ⟨⟨by decide +kernel, by decide +kernel⟩, List.mem_of_getElem? (i := 20) (by decide +kernel), List.mem_of_getElem? (i := 450) (by decide +kernel), List.mem_of_getElem? (i := 451) (by decide +kernel)⟩
theorem lw_p18 : lw_okq (⟨"GasLedger$Machine", "undo", "(LGasLedger$Frame;)V"⟩, 6) := ⟨⟨by decide +kernel, by decide +kernel⟩, List.mem_of_getElem? (i := 20) (by decide +kernel), List.mem_of_getElem? (i := 454) (by decide +kernel), List.mem_of_getElem? (i := 455) (by decide +kernel)⟩
theorem lw_p19 : lw_okq (⟨"GasLedger$Accounts", "codeNumber", "(I)I"⟩, 6) := ⟨⟨by decide +kernel, by decide +kernel⟩, List.mem_of_getElem? (i := 26) (by decide +kernel), List.mem_of_getElem? (i := 505) (by decide +kernel), List.mem_of_getElem? (i := 506) (by decide +kernel)⟩
theorem lw_p20 : lw_okq (⟨"GasLedgerModel", "valueOf", "(I)I"⟩, 39) := ⟨⟨by decide +kernel, by decide +kernel⟩, List.mem_of_getElem? (i := 553) (by decide +kernel), List.mem_of_getElem? (i := 698) (by decide +kernel), List.mem_of_getElem? (i := 699) (by decide +kernel)⟩
theorem lw_p21 : lw_okq (⟨"GasLedgerModel", "slotsRoot", "(I)I"⟩, 39) := ⟨⟨by decide +kernel, by decide +kernel⟩, List.mem_of_getElem? (i := 553) (by decide +kernel), List.mem_of_getElem? (i := 706) (by decide +kernel), List.mem_of_getElem? (i := 707) (by decide +kernel)⟩
theorem lw_p22 : lw_okq (⟨"GasLedgerModel", "map", "(I)I"⟩, 39) := ⟨⟨by decide +kernel, by decide +kernel⟩, List.mem_of_getElem? (i := 553) (by decide +kernel), List.mem_of_getElem? (i := 710) (by decide +kernel), List.mem_of_getElem? (i := 711) (by decide +kernel)⟩
theorem lw_p23 : lw_okq (⟨"GasLedgerModel", "part", "(III)I"⟩, 39) := ⟨⟨by decide +kernel, by decide +kernel⟩, List.mem_of_getElem? (i := 553) (by decide +kernel), List.mem_of_getElem? (i := 714) (by decide +kernel), List.mem_of_getElem? (i := 715) (by decide +kernel)⟩
theorem lw_p24 : lw_okq (⟨"GasLedgerModel", "empty", "(I)Z"⟩, 39) := ⟨⟨by decide +kernel, by decide +kernel⟩, List.mem_of_getElem? (i := 553) (by decide +kernel), List.mem_of_getElem? (i := 718) (by decide +kernel), List.mem_of_getElem? (i := 719) (by decide +kernel)⟩
theorem lw_p25 : lw_okq (⟨"GasLedgerModel", "transact", "(IIIIIII)I"⟩, 39) := ⟨⟨by decide +kernel, by decide +kernel⟩, List.mem_of_getElem? (i := 553) (by decide +kernel), List.mem_of_getElem? (i := 730) (by decide +kernel), List.mem_of_getElem? (i := 731) (by decide +kernel)⟩
theorem lw_p26 : lw_okq (⟨"GasLedgerModel", "enter", "(IIIIII)V"⟩, 39) := ⟨⟨by decide +kernel, by decide +kernel⟩, List.mem_of_getElem? (i := 553) (by decide +kernel), List.mem_of_getElem? (i := 734) (by decide +kernel), List.mem_of_getElem? (i := 735) (by decide +kernel)⟩
theorem lw_p27 : lw_okq (⟨"GasLedgerModel", "give", "(III)V"⟩, 39) := ⟨⟨by decide +kernel, by decide +kernel⟩, List.mem_of_getElem? (i := 553) (by decide +kernel), List.mem_of_getElem? (i := 738) (by decide +kernel), List.mem_of_getElem? (i := 739) (by decide +kernel)⟩
theorem lw_p28 : lw_okq (⟨"GasLedgerModel", "step", "()V"⟩, 39) := ⟨⟨by decide +kernel, by decide +kernel⟩, List.mem_of_getElem? (i := 553) (by decide +kernel), List.mem_of_getElem? (i := 743) (by decide +kernel), List.mem_of_getElem? (i := 744) (by decide +kernel)⟩
theorem lw_p29 : lw_okq (⟨"GasLedgerModel", "leave", "(ZII)V"⟩, 39) := ⟨⟨by decide +kernel, by decide +kernel⟩, List.mem_of_getElem? (i := 553) (by decide +kernel), List.mem_of_getElem? (i := 747) (by decide +kernel), List.mem_of_getElem? (i := 748) (by decide +kernel)⟩
theorem lw_p30 : lw_okq (⟨"GasLedgerModel", "push", "(I)V"⟩, 39) := ⟨⟨by decide +kernel, by decide +kernel⟩, List.mem_of_getElem? (i := 553) (by decide +kernel), List.mem_of_getElem? (i := 751) (by decide +kernel), List.mem_of_getElem? (i := 752) (by decide +kernel)⟩
theorem lw_p31 : lw_okq (⟨"GasLedgerModel", "cost", "(I)I"⟩, 39) := ⟨⟨by decide +kernel, by decide +kernel⟩, List.mem_of_getElem? (i := 553) (by decide +kernel), List.mem_of_getElem? (i := 761) (by decide +kernel), List.mem_of_getElem? (i := 762) (by decide +kernel)⟩
def lw_privs_2 : List (MethodName × Nat) := [(⟨"GasLedger$Machine", "resultOf", "(LGasLedger$Frame;II)I"⟩, 6), (⟨"GasLedger$Machine", "leave", "(LGasLedger$Frame;)V"⟩, 6), (⟨"GasLedger$Machine", "undo", "(LGasLedger$Frame;)V"⟩, 6), (⟨"GasLedger$Accounts", "codeNumber", "(I)I"⟩, 6), (⟨"GasLedgerModel", "valueOf", "(I)I"⟩, 39), (⟨"GasLedgerModel", "slotsRoot", "(I)I"⟩, 39), (⟨"GasLedgerModel", "map", "(I)I"⟩, 39), (⟨"GasLedgerModel", "part", "(III)I"⟩, 39), (⟨"GasLedgerModel", "empty", "(I)Z"⟩, 39), (⟨"GasLedgerModel", "transact", "(IIIIIII)I"⟩, 39), (⟨"GasLedgerModel", "enter", "(IIIIII)V"⟩, 39), (⟨"GasLedgerModel", "give", "(III)V"⟩, 39), (⟨"GasLedgerModel", "step", "()V"⟩, 39), (⟨"GasLedgerModel", "leave", "(ZII)V"⟩, 39), (⟨"GasLedgerModel", "push", "(I)V"⟩, 39), (⟨"GasLedgerModel", "cost", "(I)I"⟩, 39)]
theorem lw_r2 : ∀ q ∈ lw_privs_2, lw_okq q := List.forall_mem_cons.mpr ⟨lw_p16, List.forall_mem_cons.mpr ⟨lw_p17, List.forall_mem_cons.mpr ⟨lw_p18, List.forall_mem_cons.mpr ⟨lw_p19, List.forall_mem_cons.mpr ⟨lw_p20, List.forall_mem_cons.mpr ⟨lw_p21, List.forall_mem_cons.mpr ⟨lw_p22, List.forall_mem_cons.mpr ⟨lw_p23, List.forall_mem_cons.mpr ⟨lw_p24, List.forall_mem_cons.mpr ⟨lw_p25, List.forall_mem_cons.mpr ⟨lw_p26, List.forall_mem_cons.mpr ⟨lw_p27, List.forall_mem_cons.mpr ⟨lw_p28, List.forall_mem_cons.mpr ⟨lw_p29, List.forall_mem_cons.mpr ⟨lw_p30, List.forall_mem_cons.mpr ⟨lw_p31, fun _ h => absurd h List.not_mem_nil⟩⟩⟩⟩⟩⟩⟩⟩⟩⟩⟩⟩⟩⟩⟩⟩
theorem lw_p32 : lw_okq (⟨"GasLedgerModel", "peek", "(I)I"⟩, 39) := ⟨⟨by decide +kernel, by decide +kernel⟩, List.mem_of_getElem? (i := 553) (by decide +kernel), List.mem_of_getElem? (i := 765) (by decide +kernel), List.mem_of_getElem? (i := 766) (by decide +kernel)⟩
theorem lw_p33 : lw_okq (⟨"GasLedgerModel", "fails", "(II)Z"⟩, 39) := ⟨⟨by decide +kernel, by decide +kernel⟩, List.mem_of_getElem? (i := 553) (by decide +kernel), List.mem_of_getElem? (i := 769) (by decide +kernel), List.mem_of_getElem? (i := 770) (by decide +kernel)⟩
theorem lw_p34 : lw_okq (⟨"GasLedgerModel", "shuffle", "(II)V"⟩, 39) := ⟨⟨by decide +kernel, by decide +kernel⟩, List.mem_of_getElem? (i := 553) (by decide +kernel), List.mem_of_getElem? (i := 773) (by decide +kernel), List.mem_of_getElem? (i := 774) (by decide +kernel)⟩
theorem lw_p35 : lw_okq (⟨"GasLedgerModel", "pop", "()I"⟩, 39) := ⟨⟨by decide +kernel, by decide +kernel⟩, List.mem_of_getElem? (i := 553) (by decide +kernel), List.mem_of_getElem? (i := 777) (by decide +kernel), List.mem_of_getElem? (i := 778) (by decide +kernel)⟩
theorem lw_p36 : lw_okq (⟨"GasLedgerModel", "reckon", "(I)V"⟩, 39) := ⟨⟨by decide +kernel, by decide +kernel⟩, List.mem_of_getElem? (i := 553) (by decide +kernel), List.mem_of_getElem? (i := 781) (by decide +kernel), List.mem_of_getElem? (i := 782) (by decide +kernel)⟩
theorem lw_p37 : lw_okq (⟨"GasLedgerModel", "hold", "(I)V"⟩, 39) := ⟨⟨by decide +kernel, by decide +kernel⟩, List.mem_of_getElem? (i := 553) (by decide +kernel), List.mem_of_getElem? (i := 785) (by decide +kernel), List.mem_of_getElem? (i := 786) (by decide +kernel)⟩
theorem lw_p38 : lw_okq (⟨"GasLedgerModel", "act", "(I)V"⟩, 39) := ⟨⟨by decide +kernel, by decide +kernel⟩, List.mem_of_getElem? (i := 553) (by decide +kernel), List.mem_of_getElem? (i := 789) (by decide +kernel), List.mem_of_getElem? (i := 790) (by decide +kernel)⟩
theorem lw_p39 : lw_okq (⟨"GasLedgerModel", "call", "(Z)V"⟩, 39) := ⟨⟨by decide +kernel, by decide +kernel⟩, List.mem_of_getElem? (i := 553) (by decide +kernel), List.mem_of_getElem? (i := 793) (by decide +kernel), List.mem_of_getElem? (i := 794) (by decide +kernel)⟩
theorem lw_p40 : lw_okq (⟨"GasLedgerModel", "create", "()V"⟩, 39) := ⟨⟨by decide +kernel, by decide +kernel⟩, List.mem_of_getElem? (i := 553) (by decide +kernel), List.mem_of_getElem? (i := 797) (by decide +kernel), List.mem_of_getElem? (i := 798) (by decide +kernel)⟩
theorem lw_p41 : lw_okq (⟨"GasLedgerModel", "wipe", "(I)V"⟩, 39) := ⟨⟨by decide +kernel, by decide +kernel⟩, List.mem_of_getElem? (i := 553) (by decide +kernel), List.mem_of_getElem? (i := 801) (by decide +kernel), List.mem_of_getElem? (i := 802) (by decide +kernel)⟩
theorem lw_p42 : lw_okq (⟨"GasLedgerModel", "bloom", "()I"⟩, 39) := ⟨⟨by decide +kernel, by decide +kernel⟩, List.mem_of_getElem? (i := 553) (by decide +kernel), List.mem_of_getElem? (i := 834) (by decide +kernel), List.mem_of_getElem? (i := 835) (by decide +kernel)⟩
def lw_privs_3 : List (MethodName × Nat) := [(⟨"GasLedgerModel", "peek", "(I)I"⟩, 39), (⟨"GasLedgerModel", "fails", "(II)Z"⟩, 39), (⟨"GasLedgerModel", "shuffle", "(II)V"⟩, 39), (⟨"GasLedgerModel", "pop", "()I"⟩, 39), (⟨"GasLedgerModel", "reckon", "(I)V"⟩, 39), (⟨"GasLedgerModel", "hold", "(I)V"⟩, 39), (⟨"GasLedgerModel", "act", "(I)V"⟩, 39), (⟨"GasLedgerModel", "call", "(Z)V"⟩, 39), (⟨"GasLedgerModel", "create", "()V"⟩, 39), (⟨"GasLedgerModel", "wipe", "(I)V"⟩, 39), (⟨"GasLedgerModel", "bloom", "()I"⟩, 39)]
theorem lw_r3 : ∀ q ∈ lw_privs_3, lw_okq q := List.forall_mem_cons.mpr ⟨lw_p32, List.forall_mem_cons.mpr ⟨lw_p33, List.forall_mem_cons.mpr ⟨lw_p34, List.forall_mem_cons.mpr ⟨lw_p35, List.forall_mem_cons.mpr ⟨lw_p36, List.forall_mem_cons.mpr ⟨lw_p37, List.forall_mem_cons.mpr ⟨lw_p38, List.forall_mem_cons.mpr ⟨lw_p39, List.forall_mem_cons.mpr ⟨lw_p40, List.forall_mem_cons.mpr ⟨lw_p41, List.forall_mem_cons.mpr ⟨lw_p42, fun _ h => absurd h List.not_mem_nil⟩⟩⟩⟩⟩⟩⟩⟩⟩⟩⟩
def lw_privs : List (MethodName × Nat) := lw_privs_1 ++ (lw_privs_2 ++ (lw_privs_3))
def lw_tbl : List Cond := k2_sels lw_privs ++ tables_1
theorem lw_privs_ok : ∀ q ∈ lw_privs, lw_okq q := by
  show ∀ q ∈ lw_privs_1 ++ (lw_privs_2 ++ (lw_privs_3)), lw_okq q
  exact List.forall_mem_append.mpr ⟨lw_r1, List.forall_mem_append.mpr ⟨lw_r2, lw_r3⟩⟩
end
section
/-! Worlds that lie side by side: cell k at address b + k, and what the cells hold as a memory of ints V k p. -/
def gx_w (b N : Nat) (w : Nat → va_E) : va_W := (List.range N).map fun k => (b + k, w k)
theorem gx_at {b N : Nat} {w : Nat → va_E} {k : Nat} {e : va_E} (hk : k < N) (he : w k = e) : (gx_w b N w)[k]? = some (b + k, e) := by
  subst he
  simp [gx_w, hk]
theorem gx_get {b N : Nat} {w : Nat → va_E} {k : Nat} {q : Nat × va_E} (h : (gx_w b N w)[k]? = some q) : k < N ∧ q = (b + k, w k) := by
  have hk : k < N := by
    have h1 := (List.getElem?_eq_some_iff.mp h).1
    simpa [gx_w] using h1
  exact ⟨hk, Option.some.inj (h.symm.trans (gx_at (b := b) (w := w) hk rfl))⟩
theorem gx_set {b N : Nat} {w : Nat → va_E} {k : Nat} (e : va_E) : (gx_w b N w).set k (b + k, e) = gx_w b N (va_up w k e) := by
  apply List.ext_getElem?
  intro j
  by_cases hj : j < N
  · rw [gx_at (w := va_up w k e) hj rfl, List.getElem?_set]
    by_cases hkj : k = j
    · subst hkj
      simp [gx_w, hj, va_up]
    · rw [if_neg hkj, gx_at (w := w) hj rfl]
      simp [va_up, Ne.symm hkj]
  · have h1 : ((gx_w b N w).set k (b + k, e)).length ≤ j := by simp [gx_w]; omega
    have h2 : (gx_w b N (va_up w k e)).length ≤ j := by simp [gx_w]; omega
    rw [List.getElem?_eq_none h1, List.getElem?_eq_none h2]
def gx_A (b N : Nat) : Nat → Prop := fun q => b ≤ q ∧ q < b + N
theorem gx_D {b N : Nat} {w : Nat → va_E} : va_D (gx_A b N) (gx_w b N w) := by
  constructor
  · intro i j x y hx hy hxy
    obtain ⟨-, rfl⟩ := gx_get hx
    obtain ⟨-, rfl⟩ := gx_get hy
    exact Nat.add_left_cancel hxy
  · intro k x hx
    obtain ⟨hk, rfl⟩ := gx_get hx
    exact ⟨Nat.le_add_right _ _, Nat.add_lt_add_left hk _⟩
/-- a memory of ints: place p of cell k -/
abbrev gx_M : Type := Nat → Nat → Int32
def gx_v (sh : Nat → (Nat → Int32) → va_E) (V : gx_M) : Nat → va_E := fun k => sh k (V k)
def gx_u (V : gx_M) (k p : Nat) (x : Int32) : gx_M := va_up V k (upd (V k) p x)
theorem gx_vset {sh : Nat → (Nat → Int32) → va_E} {V : gx_M} {k : Nat} {f : Nat → Int32} : va_up (gx_v sh V) k (sh k f) = gx_v sh (va_up V k f) := by
  funext j
  unfold va_up gx_v
  by_cases h : j = k
  · subst h; simp
  · simp [h]
theorem gx_us (V : gx_M) (k p : Nat) (x : Int32) : gx_u V k p x k p = x := by simp [gx_u, va_up, upd]
theorem gx_up {V : gx_M} {k p p' : Nat} {x : Int32} (h : p' ≠ p) : gx_u V k p x k p' = V k p' := by simp [gx_u, va_up, upd, h]
theorem gx_uk {V : gx_M} {k k' p p' : Nat} {x : Int32} (h : k' ≠ k) : gx_u V k p x k' p' = V k' p' := by simp [gx_u, va_up, h]
theorem gx_uK {V : gx_M} {k k' p : Nat} {x : Int32} (h : k' ≠ k) : gx_u V k p x k' = V k' := by simp [gx_u, va_up, h]
/-- what a method answers and leaves: r, and the memory V -/
def gx_Q (D : va_G) (cl : List vw_C) (b N : Nat) (sh : Nat → (Nat → Int32) → va_E) (r : Option Value) (V : gx_M) : Array Value → State → Outcome → State → Prop := fun _ st oc t =>
  oc = .returned r ∧ va_P D cl (gx_w b N (gx_v sh V)) t.heap ∧ va_F (gx_A b N) st t
/-- a contract: at arguments av and memory V the method answers r and leaves V'; X: what stands outside (statics) -/
def gx_C (l : Launch) (y : MethodName) (ws : List Cond) (rm : Room) (D : va_G) (cl : List vw_C) (tys : List (ClassId × FieldType)) (b N : Nat) (sh : Nat → (Nat → Int32) → va_E) (X : State → Prop) (av : List Value) (V : gx_M) (r : Option Value) (V' : gx_M) : Prop :=
  Met l y ws rm (va_Pc av (fun U => va_P D cl (gx_w b N (gx_v sh V)) U.heap ∧ va_K D cl tys U ∧ X U)) (gx_Q D cl b N sh r V') 0 0 (gx_A b N)
/-- what stands outside stays, and no frame is seen in it -/
def gx_X (b N : Nat) (X : State → Prop) : Prop := (∀ (s U : State) (H : Heap) (locs : List Loc), X s → va_S (gx_A b N) s.heap H locs → U.heap = H → s.vm.Alike U.vm → X U) ∧ ∀ (a : Array Value) (U : State) (g : JFrame) (mk : MethodId), X U → X (U.calling g mk a)
section GX
variable {p : Program} {l : Launch} {e : Env} {R : Room} {s : State} {m : MethodId} {args : Array Value} {below : List Frame} {meth : Method} {c : Code} {H : Heap} {locs : List Loc} {cells slots : Nat} {Q : State → Prop}
variable {cc : ByteArray} {pc : Nat} {ls : Array Slot} {rest st0 : List Value} {D : va_G} {cl : List vw_C} {tys : List (ClassId × FieldType)} {H0 : Heap} {b N : Nat} {sh : Nat → (Nat → Int32) → va_E} {V V' V2 : gx_M} {X : State → Prop}
theorem gx_start {y : MethodName} {ws ws' : List Cond} {rm : Room} {av : List Value} {r : Option Value} {maxL : Nat} {ret : Option FieldType}
    (hy : plainName y.cls = true) (hw : ws = Cond.code y cc maxL ret :: ws') (hlen : (lg_sl av).length ≤ maxL)
    (body : ∀ (p : Program) (e : Env) (s : State) (m : MethodId) (args : Array Value) (below : List Frame) (meth : Method) (c : Code) (ls : Array Slot), p.tables.exec = Jvm.exec → c.code = cc → meth.sig.returnType = ret → (∀ w ∈ ws, w.before args s = true) → s.vm.findClass y.cls = some m.cls → meth.locks = false → c.maxLocals = maxL → lv_has ls maxL (lv_args 0 av) → va_P D cl (gx_w b N (gx_v sh V)) s.heap → va_K D cl tys s → X s → va_S (gx_A b N) s.heap s.heap [] →
      W p l e (headSpec ws rm).room s m args below meth c s.heap [] 0 0 (MQ below (gx_Q D cl b N sh r V') args s 0 0 (gx_A b N)) (F0 m 0 ls [])) : gx_C l y ws rm D cl tys b N sh X av V r V' := by
  refine Met.ofW (cc := cc) (maxL := maxL) (ret := ret) hy hw ?_
  intro p e s m args below meth c s₁ B hml hv
  obtain ⟨rfl, hP, hK, hX⟩ := hv
  rw [lg_entry_eq]
  exact body p e s m _ below meth c _ B.exec B.bytes B.returns (atoms_spec (ws := ws) B.pre) (findClass_of_methodNamed B.named) B.notSynchronized hml (lv_entry av hlen) hP hK hX va_S.rf
theorem gx_iret {free : Addr → Prop} {v : Int32} {r : Option Value} (hexec : p.tables.exec = Jvm.exec) (hb : c.code = cc) (hr : meth.sig.returnType = some .int) (hlk : meth.locks = false) (hP : va_P D cl (gx_w b N (gx_v sh V)) H) (hS : va_S (gx_A b N) s.heap H locs) (hdg : decode cc pc = .ok (.ireturn, 1)) (hv : some (.int v) = r) (hV : V = V') :
    W p l e R s m args below meth c H locs cells slots (MQ below (gx_Q D cl b N sh r V') args s cells slots (gx_A b N)) (F0 m pc ls [.int v]) := by
  subst hv; subst hV
  exact W.iret hexec hb hr (fun t ht _ => ⟨rfl, by rw [ht]; exact hP, hS.F ht⟩) hS.2.2 hdg
theorem gx_zret {free : Addr → Prop} {v : Int32} {r : Option Value} (hexec : p.tables.exec = Jvm.exec) (hb : c.code = cc) (hr : meth.sig.returnType = some .boolean) (hlk : meth.locks = false) (hP : va_P D cl (gx_w b N (gx_v sh V)) H) (hS : va_S (gx_A b N) s.heap H locs) (hdg : decode cc pc = .ok (.ireturn, 1)) (hn : narrow .boolean (.int v) = .int v) (hv : some (.int v) = r) (hV : V = V') :
    W p l e R s m args below meth c H locs cells slots (MQ below (gx_Q D cl b N sh r V') args s cells slots (gx_A b N)) (F0 m pc ls [.int v]) := by
  subst hv; subst hV
  exact W.zret hexec hb hr hn (fun t ht _ => ⟨rfl, by rw [ht]; exact hP, hS.F ht⟩) hS.2.2 hdg
theorem gx_vret {r : Option Value} (hexec : p.tables.exec = Jvm.exec) (hb : c.code = cc) (hr : meth.sig.returnType = none) (hlk : meth.locks = false) (hP : va_P D cl (gx_w b N (gx_v sh V)) H) (hS : va_S (gx_A b N) s.heap H locs) (hdg : decode cc pc = .ok (.return_, 1)) (hv : none = r) (hV : V = V') :
    W p l e R s m args below meth c H locs cells slots (MQ below (gx_Q D cl b N sh r V') args s cells slots (gx_A b N)) (F0 m pc ls []) := by
  subst hv; subst hV
  exact W.vret hexec hb hr (fun t ht _ => ⟨rfl, by rw [ht]; exact hP, hS.F ht⟩) hS.2.2 hdg
theorem gx_lret {v : Int64} {r : Option Value} (hexec : p.tables.exec = Jvm.exec) (hb : c.code = cc) (hr : meth.sig.returnType = some .long) (hlk : meth.locks = false) (hP : va_P D cl (gx_w b N (gx_v sh V)) H) (hS : va_S (gx_A b N) s.heap H locs) (hdg : decode cc pc = .ok (.lreturn, 1)) (hv : some (.long v) = r) (hV : V = V') :
    W p l e R s m args below meth c H locs cells slots (MQ below (gx_Q D cl b N sh r V') args s cells slots (gx_A b N)) (F0 m pc ls [.long v]) := by
  subst hv; subst hV
  exact W.lret hexec hb hr (fun t ht _ => ⟨rfl, by rw [ht]; exact hP, hS.F ht⟩) hS.2.2 hdg
theorem gx_put (hexec : p.tables.exec = Jvm.exec) (hb : c.code = cc) {own ref C : String} {T : u_T} {NF ci index : Nat} {Ts : List Cond} (hts : ∀ w ∈ Ts, w.before args s = true) (hin : ∀ w ∈ u_ws C T NF, w ∈ Ts) (ty0 : Nat → FieldType) (hty : ∀ k, k < NF → parseFieldDescriptor (T k).2.2.1 = some (ty0 k)) (hnm : ∀ a, a < NF → ∀ b, b < NF → a ≠ b → (T a).2.1 ≠ (T b).2.1) (hown : s.vm.findClass own = some m.cls) (hK : va_K D cl tys s) (hP : va_P D cl (gx_w b N (gx_v sh V)) H) (hS : va_S (gx_A b N) H0 H locs) (k0 : Nat) (hk0 : k0 < N) {fs : List Value} (he : sh k0 (V k0) = .inr (ci, fs)) (hc : cl[ci]? = some (C, T, NF)) (k : Nat) (hk : k < NF) (hlink : (Cond.fieldLink own index ref (T k).2.1 (T k).2.2.1).before args s = true) (hsame : ∀ x, s.fieldFound? (T k).1 (T k).2.1 (T k).2.2.1 = some x → s.fieldFound? ref (T k).2.1 (T k).2.2.1 = some x) (hfin : (T k).2.2.2 = false) {ty : FieldType} {x : Int32} (hd : parseFieldDescriptor (T k).2.2.1 = some ty) (hn : narrow ty (.int x) = .int x) (hfit : fits ty (.int x) = true) (hl : k < fs.length) (q : Nat) (hu : sh k0 (upd (V k0) q x) = .inr (ci, fs.set k (.int x)))
    (hdg : decode cc pc = .ok (.putfield index, 3)) (kk : ∀ (H1 : Heap) (locs1 : List Loc), va_P D cl (gx_w b N (gx_v sh (gx_u V k0 q x))) H1 → va_S (gx_A b N) H0 H1 locs1 → W p l e R s m args below meth c H1 locs1 cells slots Q (F0 m (pc + 3) ls rest)) : W p l e R s m args below meth c H locs cells slots Q (F0 m pc ls (.int x :: .ref (b + k0) :: rest)) := by
  refine va_put hexec hb hts hin ty0 hty hnm hown hK hP gx_D hS k0 (gx_at hk0 he) hc k hk hlink hsame hfin hd hn hfit hl hdg (fun H1 locs1 hP1 _ hS1 => kk H1 locs1 ?_ hS1)
  rw [gx_set, ← hu, gx_vset] at hP1
  exact hP1
theorem gx_ald (hexec : p.tables.exec = Jvm.exec) (hb : c.code = cc) (hK : va_K D cl tys s) (hP : va_P D cl (gx_w b N (gx_v sh V)) H) (k0 t0 : Nat) (hk0 : k0 < N) {cA : ClassId} {n : Nat} (he : ∀ f, sh k0 f = .inl (cA, n, .inl f)) (ht : tys[t0]? = some (cA, .int)) {i : Int32} (j : Nat) (hi : i = nI j) (hj : j < n) (hn : n < 2 ^ 31) (hdg : decode cc pc = .ok (.iaload, 1))
    (kk : W p l e R s m args below meth c H locs cells slots Q (F0 m (pc + 1) ls (.int (V k0 j) :: rest))) : W p l e R s m args below meth c H locs cells slots Q (F0 m pc ls (.int i :: .ref (b + k0) :: rest)) := by
  subst hi
  refine va_iald hexec hb hK hP k0 t0 (gx_at hk0 (he _)) ht (vp_in_nI hj hn) hdg ?_
  rw [nI_clamp (by omega)]
  exact kk
theorem gx_ast (hexec : p.tables.exec = Jvm.exec) (hb : c.code = cc) (hK : va_K D cl tys s) (hP : va_P D cl (gx_w b N (gx_v sh V)) H) (hS : va_S (gx_A b N) H0 H locs) (k0 t0 : Nat) (hk0 : k0 < N) {cA : ClassId} {n : Nat} (he : ∀ f, sh k0 f = .inl (cA, n, .inl f)) (ht : tys[t0]? = some (cA, .int)) {i x : Int32} (j : Nat) (hi : i = nI j) (hj : j < n) (hn : n < 2 ^ 31) (hdg : decode cc pc = .ok (.iastore, 1))
    (kk : ∀ (H1 : Heap) (locs1 : List Loc), va_P D cl (gx_w b N (gx_v sh (gx_u V k0 j x))) H1 → va_S (gx_A b N) H0 H1 locs1 → W p l e R s m args below meth c H1 locs1 cells slots Q (F0 m (pc + 1) ls rest)) : W p l e R s m args below meth c H locs cells slots Q (F0 m pc ls (.int x :: .int i :: .ref (b + k0) :: rest)) := by
  subst hi
  refine va_iast hexec hb hK hP gx_D hS k0 t0 (gx_at hk0 (he _)) ht (vp_in_nI hj hn) hdg (fun H1 locs1 hP1 _ hS1 => kk H1 locs1 ?_ hS1)
  rw [nI_clamp (by omega), gx_set, ← he, gx_vset] at hP1
  exact hP1
theorem gx_call {r : Option Value} {A0 : Nat → Prop} {a : Array Value} (hr : va_Run p l e R s m args below meth c H locs cells slots 0 0 (F0 m pc ls st0) rest (gx_Q D cl b N sh r V' a) (gx_A b N)) (hS : va_S A0 H0 H locs) (hA : ∀ q, gx_A b N q → A0 q)
    (kk : ∀ (H1 : Heap) (locs1 : List Loc), va_P D cl (gx_w b N (gx_v sh V')) H1 → va_S A0 H0 H1 locs1 → H.size ≤ H1.size → (∀ q : Nat, q < H.size → ¬ gx_A b N q → H1[q]? = H[q]?) → W p l e R s m args below meth c H1 locs1 cells slots Q (F0 m (pc + 3) ls (r.toList ++ rest))) : W p l e R s m args below meth c H locs cells slots Q (F0 m pc ls st0) := by
  intro T hT XX
  obtain ⟨v, st₀, t, T', L, h0, X', hL, e1, -, ⟨hv, hp, hz, hk⟩, st⟩ := hr T hT XX
  cases hv
  rw [h0] at hz hk
  rw [← e1] at hp hz hk
  obtain ⟨t2, a1, b1⟩ := kk T'.heap (locs ++ L) hp ⟨Nat.le_trans hS.1 hz, fun q h1 h2 => by rw [hk q (Nat.lt_of_lt_of_le h1 hS.1) (fun z => h2 (hA q z))]; exact hS.2.1 q h1 h2, fun q hq => by
      rcases List.mem_append.mp hq with h | h
      · exact hS.2.2 q h
      · exact hA _ (hL q h)⟩ hz hk T' rfl X'
  exact ⟨t2, st t2 a1, b1⟩
theorem gx_pre {av : List Value} (hX0 : gx_X b N X) (hX : X s) (hK : va_K D cl tys s) (hP : va_P D cl (gx_w b N (gx_v sh V)) H) (hS : va_S (gx_A b N) s.heap H locs) : PreS s H (va_Pc av (fun U => va_P D cl (gx_w b N (gx_v sh V)) U.heap ∧ va_K D cl tys U ∧ X U)) av :=
  ⟨fun a U g mk q => ⟨q.1, q.2.1, va_K.moved (u := U) (U := U.calling g mk a) (Vm.Alike.refl U.vm) q.2.2.1, hX0.2 a U g mk q.2.2.2⟩, fun U hU hW => ⟨rfl, by rw [hU]; exact hP, va_K.moved hW.alike hK, hX0.1 s U H locs hX hS hU hW.alike⟩⟩
theorem gx_preV {k0 ci : Nat} {As fs : List Value} {q : vw_C} (hX0 : gx_X b N X) (hX : X s) (hK : va_K D cl tys s) (hP : va_P D cl (gx_w b N (gx_v sh V)) H) (hS : va_S (gx_A b N) s.heap H locs) (hk0 : k0 < N) (he : sh k0 (V k0) = .inr (ci, fs)) (hc : cl[ci]? = some q) : PreV s H q.1 (b + k0) (va_Pc (.ref (b + k0) :: As) (fun U => va_P D cl (gx_w b N (gx_v sh V)) U.heap ∧ va_K D cl tys U ∧ X U)) As :=
  ⟨(gx_pre hX0 hX hK hP hS).1, va_recv hK hP hc (gx_at hk0 he), (gx_pre hX0 hX hK hP hS).2⟩
end GX
end
section
def cx_tb : List Cond := lw_tbl.filter goodWord
theorem gx_tb {c : Cond} (i : Nat) (h : lw_tbl[i]? = some c) (hg : goodWord c = true) : c ∈ cx_tb := List.mem_filter.mpr ⟨List.mem_of_getElem? h, hg⟩
theorem gx_good {c : Cond} (h : c ∈ cx_tb) : GoodIn cx_tb (c :: cx_tb) := by
  intro w hw
  have h2 : w ∈ cx_tb := by
    rcases List.mem_cons.mp hw with e | e
    · rw [e]; exact h
    · exact e
  exact ⟨h2, good_of_word (List.mem_filter.mp h2).2⟩
def R_Acc : String := "GasLedger$Accounts"
def T_Acc : u_T := fun k => match k with
  | 0 => ("GasLedger$Accounts", "balances", "[I", true)
  | 1 => ("GasLedger$Accounts", "nonces", "[I", true)
  | 2 => ("GasLedger$Accounts", "sizes", "[I", true)
  | 3 => ("GasLedger$Accounts", "words", "[I", true)
  | 4 => ("GasLedger$Accounts", "slots", "[I", true)
  | _ => ("GasLedger$Accounts", "values", "[I", true)
def t_Acc : Nat → FieldType := fun k => match k with
  | 0 => .array .int
  | 1 => .array .int
  | 2 => .array .int
  | 3 => .array .int
  | 4 => .array .int
  | _ => .array .int
theorem nm_Acc : ∀ a, a < 6 → ∀ b, b < 6 → a ≠ b → (T_Acc a).2.1 ≠ (T_Acc b).2.1 := by decide +kernel
theorem ty_Acc : ∀ k, k < 6 → parseFieldDescriptor (T_Acc k).2.2.1 = some (t_Acc k) := by decide +kernel
theorem ly_Acc_0 : u_lay R_Acc T_Acc 0 ∈ cx_tb := gx_tb (c := (Jvm.Cond.laysFinal "GasLedger$Accounts" "GasLedger$Accounts" "balances" "[I")) 88 (by decide +kernel) (by decide +kernel)
theorem ly_Acc_1 : u_lay R_Acc T_Acc 1 ∈ cx_tb := gx_tb (c := (Jvm.Cond.laysFinal "GasLedger$Accounts" "GasLedger$Accounts" "nonces" "[I")) 90 (by decide +kernel) (by decide +kernel)
theorem ly_Acc_2 : u_lay R_Acc T_Acc 2 ∈ cx_tb := gx_tb (c := (Jvm.Cond.laysFinal "GasLedger$Accounts" "GasLedger$Accounts" "sizes" "[I")) 92 (by decide +kernel) (by decide +kernel)
theorem ly_Acc_3 : u_lay R_Acc T_Acc 3 ∈ cx_tb := gx_tb (c := (Jvm.Cond.laysFinal "GasLedger$Accounts" "GasLedger$Accounts" "words" "[I")) 94 (by decide +kernel) (by decide +kernel)
theorem ly_Acc_4 : u_lay R_Acc T_Acc 4 ∈ cx_tb := gx_tb (c := (Jvm.Cond.laysFinal "GasLedger$Accounts" "GasLedger$Accounts" "slots" "[I")) 96 (by decide +kernel) (by decide +kernel)
theorem ly_Acc_5 : u_lay R_Acc T_Acc 5 ∈ cx_tb := gx_tb (c := (Jvm.Cond.laysFinal "GasLedger$Accounts" "GasLedger$Accounts" "values" "[I")) 98 (by decide +kernel) (by decide +kernel)
theorem in_Acc : ∀ w ∈ u_ws R_Acc T_Acc 6, w ∈ cx_tb := by
  intro w hw
  obtain ⟨k, hk, rfl⟩ := List.mem_map.mp hw
  have hk : k < 6 := List.mem_range.mp hk
  match k, hk with
  | 0, _ => exact ly_Acc_0
  | 1, _ => exact ly_Acc_1
  | 2, _ => exact ly_Acc_2
  | 3, _ => exact ly_Acc_3
  | 4, _ => exact ly_Acc_4
  | 5, _ => exact ly_Acc_5
  | k + 6, hk => exact absurd hk (by omega)
def R_Frm : String := "GasLedger$Frame"
def T_Frm : u_T := fun k => match k with
  | 0 => ("GasLedger$Frame", "self", "I", false)
  | 1 => ("GasLedger$Frame", "coder", "I", false)
  | 2 => ("GasLedger$Frame", "place", "I", false)
  | 3 => ("GasLedger$Frame", "caller", "I", false)
  | 4 => ("GasLedger$Frame", "value", "I", false)
  | 5 => ("GasLedger$Frame", "input", "I", false)
  | 6 => ("GasLedger$Frame", "gas", "I", false)
  | 7 => ("GasLedger$Frame", "stack", "[I", true)
  | 8 => ("GasLedger$Frame", "height", "I", false)
  | 9 => ("GasLedger$Frame", "ended", "Z", false)
  | 10 => ("GasLedger$Frame", "endedWell", "Z", false)
  | 11 => ("GasLedger$Frame", "output", "I", false)
  | 12 => ("GasLedger$Frame", "accountsBefore", "LGasLedger$Accounts;", true)
  | 13 => ("GasLedger$Frame", "refundBefore", "I", false)
  | 14 => ("GasLedger$Frame", "goersBefore", "I", false)
  | 15 => ("GasLedger$Frame", "logsBefore", "I", false)
  | _ => ("GasLedger$Frame", "bloomBefore", "I", false)
def t_Frm : Nat → FieldType := fun k => match k with
  | 0 => .int
  | 1 => .int
  | 2 => .int
  | 3 => .int
  | 4 => .int
  | 5 => .int
  | 6 => .int
  | 7 => .array .int
  | 8 => .int
  | 9 => .boolean
  | 10 => .boolean
  | 11 => .int
  | 12 => .object "GasLedger$Accounts"
  | 13 => .int
  | 14 => .int
  | 15 => .int
  | _ => .int
theorem nm_Frm : ∀ a, a < 17 → ∀ b, b < 17 → a ≠ b → (T_Frm a).2.1 ≠ (T_Frm b).2.1 := by decide +kernel
theorem ty_Frm : ∀ k, k < 17 → parseFieldDescriptor (T_Frm k).2.2.1 = some (t_Frm k) := by decide +kernel
theorem ly_Frm_0 : u_lay R_Frm T_Frm 0 ∈ cx_tb := gx_tb (c := (Jvm.Cond.lays "GasLedger$Frame" "GasLedger$Frame" "self" "I")) 166 (by decide +kernel) (by decide +kernel)
theorem ly_Frm_1 : u_lay R_Frm T_Frm 1 ∈ cx_tb := gx_tb (c := (Jvm.Cond.lays "GasLedger$Frame" "GasLedger$Frame" "coder" "I")) 168 (by decide +kernel) (by decide +kernel)
theorem ly_Frm_2 : u_lay R_Frm T_Frm 2 ∈ cx_tb := gx_tb (c := (Jvm.Cond.lays "GasLedger$Frame" "GasLedger$Frame" "place" "I")) 170 (by decide +kernel) (by decide +kernel)
theorem ly_Frm_3 : u_lay R_Frm T_Frm 3 ∈ cx_tb := gx_tb (c := (Jvm.Cond.lays "GasLedger$Frame" "GasLedger$Frame" "caller" "I")) 172 (by decide +kernel) (by decide +kernel)
theorem ly_Frm_4 : u_lay R_Frm T_Frm 4 ∈ cx_tb := gx_tb (c := (Jvm.Cond.lays "GasLedger$Frame" "GasLedger$Frame" "value" "I")) 174 (by decide +kernel) (by decide +kernel)
theorem ly_Frm_5 : u_lay R_Frm T_Frm 5 ∈ cx_tb := gx_tb (c := (Jvm.Cond.lays "GasLedger$Frame" "GasLedger$Frame" "input" "I")) 176 (by decide +kernel) (by decide +kernel)
theorem ly_Frm_6 : u_lay R_Frm T_Frm 6 ∈ cx_tb := gx_tb (c := (Jvm.Cond.lays "GasLedger$Frame" "GasLedger$Frame" "gas" "I")) 178 (by decide +kernel) (by decide +kernel)
theorem ly_Frm_7 : u_lay R_Frm T_Frm 7 ∈ cx_tb := gx_tb (c := (Jvm.Cond.laysFinal "GasLedger$Frame" "GasLedger$Frame" "stack" "[I")) 180 (by decide +kernel) (by decide +kernel)
theorem ly_Frm_8 : u_lay R_Frm T_Frm 8 ∈ cx_tb := gx_tb (c := (Jvm.Cond.lays "GasLedger$Frame" "GasLedger$Frame" "height" "I")) 182 (by decide +kernel) (by decide +kernel)
theorem ly_Frm_9 : u_lay R_Frm T_Frm 9 ∈ cx_tb := gx_tb (c := (Jvm.Cond.lays "GasLedger$Frame" "GasLedger$Frame" "ended" "Z")) 184 (by decide +kernel) (by decide +kernel)
theorem ly_Frm_10 : u_lay R_Frm T_Frm 10 ∈ cx_tb := gx_tb (c := (Jvm.Cond.lays "GasLedger$Frame" "GasLedger$Frame" "endedWell" "Z")) 186 (by decide +kernel) (by decide +kernel)
theorem ly_Frm_11 : u_lay R_Frm T_Frm 11 ∈ cx_tb := gx_tb (c := (Jvm.Cond.lays "GasLedger$Frame" "GasLedger$Frame" "output" "I")) 188 (by decide +kernel) (by decide +kernel)
theorem ly_Frm_12 : u_lay R_Frm T_Frm 12 ∈ cx_tb := gx_tb (c := (Jvm.Cond.laysFinal "GasLedger$Frame" "GasLedger$Frame" "accountsBefore" "LGasLedger$Accounts;")) 190 (by decide +kernel) (by decide +kernel)
theorem ly_Frm_13 : u_lay R_Frm T_Frm 13 ∈ cx_tb := gx_tb (c := (Jvm.Cond.lays "GasLedger$Frame" "GasLedger$Frame" "refundBefore" "I")) 192 (by decide +kernel) (by decide +kernel)
theorem ly_Frm_14 : u_lay R_Frm T_Frm 14 ∈ cx_tb := gx_tb (c := (Jvm.Cond.lays "GasLedger$Frame" "GasLedger$Frame" "goersBefore" "I")) 194 (by decide +kernel) (by decide +kernel)
theorem ly_Frm_15 : u_lay R_Frm T_Frm 15 ∈ cx_tb := gx_tb (c := (Jvm.Cond.lays "GasLedger$Frame" "GasLedger$Frame" "logsBefore" "I")) 196 (by decide +kernel) (by decide +kernel)
theorem ly_Frm_16 : u_lay R_Frm T_Frm 16 ∈ cx_tb := gx_tb (c := (Jvm.Cond.lays "GasLedger$Frame" "GasLedger$Frame" "bloomBefore" "I")) 198 (by decide +kernel) (by decide +kernel)
theorem in_Frm : ∀ w ∈ u_ws R_Frm T_Frm 17, w ∈ cx_tb := by
  intro w hw
  obtain ⟨k, hk, rfl⟩ := List.mem_map.mp hw
  have hk : k < 17 := List.mem_range.mp hk
  match k, hk with
  | 0, _ => exact ly_Frm_0
  | 1, _ => exact ly_Frm_1
  | 2, _ => exact ly_Frm_2
  | 3, _ => exact ly_Frm_3
  | 4, _ => exact ly_Frm_4
  | 5, _ => exact ly_Frm_5
  | 6, _ => exact ly_Frm_6
  | 7, _ => exact ly_Frm_7
  | 8, _ => exact ly_Frm_8
  | 9, _ => exact ly_Frm_9
  | 10, _ => exact ly_Frm_10
  | 11, _ => exact ly_Frm_11
  | 12, _ => exact ly_Frm_12
  | 13, _ => exact ly_Frm_13
  | 14, _ => exact ly_Frm_14
  | 15, _ => exact ly_Frm_15
  | 16, _ => exact ly_Frm_16
  | k + 17, hk => exact absurd hk (by omega)
def R_Log : String := "GasLedger$Logs"
def T_Log : u_T := fun k => match k with
  | 0 => ("GasLedger$Logs", "accounts", "[I", true)
  | 1 => ("GasLedger$Logs", "numbers", "[I", true)
  | 2 => ("GasLedger$Logs", "count", "I", false)
  | _ => ("GasLedger$Logs", "bloom", "I", false)
def t_Log : Nat → FieldType := fun k => match k with
  | 0 => .array .int
  | 1 => .array .int
  | 2 => .int
  | _ => .int
theorem nm_Log : ∀ a, a < 4 → ∀ b, b < 4 → a ≠ b → (T_Log a).2.1 ≠ (T_Log b).2.1 := by decide +kernel
theorem ty_Log : ∀ k, k < 4 → parseFieldDescriptor (T_Log k).2.2.1 = some (t_Log k) := by decide +kernel
theorem ly_Log_0 : u_lay R_Log T_Log 0 ∈ cx_tb := gx_tb (c := (Jvm.Cond.laysFinal "GasLedger$Logs" "GasLedger$Logs" "accounts" "[I")) 116 (by decide +kernel) (by decide +kernel)
theorem ly_Log_1 : u_lay R_Log T_Log 1 ∈ cx_tb := gx_tb (c := (Jvm.Cond.laysFinal "GasLedger$Logs" "GasLedger$Logs" "numbers" "[I")) 118 (by decide +kernel) (by decide +kernel)
theorem ly_Log_2 : u_lay R_Log T_Log 2 ∈ cx_tb := gx_tb (c := (Jvm.Cond.lays "GasLedger$Logs" "GasLedger$Logs" "count" "I")) 120 (by decide +kernel) (by decide +kernel)
theorem ly_Log_3 : u_lay R_Log T_Log 3 ∈ cx_tb := gx_tb (c := (Jvm.Cond.lays "GasLedger$Logs" "GasLedger$Logs" "bloom" "I")) 122 (by decide +kernel) (by decide +kernel)
theorem in_Log : ∀ w ∈ u_ws R_Log T_Log 4, w ∈ cx_tb := by
  intro w hw
  obtain ⟨k, hk, rfl⟩ := List.mem_map.mp hw
  have hk : k < 4 := List.mem_range.mp hk
  match k, hk with
  | 0, _ => exact ly_Log_0
  | 1, _ => exact ly_Log_1
  | 2, _ => exact ly_Log_2
  | 3, _ => exact ly_Log_3
  | k + 4, hk => exact absurd hk (by omega)
def R_Mac : String := "GasLedger$Machine"
def T_Mac : u_T := fun k => match k with
  | 0 => ("GasLedger$Machine", "accounts", "LGasLedger$Accounts;", true)
  | 1 => ("GasLedger$Machine", "logs", "LGasLedger$Logs;", true)
  | 2 => ("GasLedger$Machine", "frames", "[LGasLedger$Frame;", true)
  | 3 => ("GasLedger$Machine", "depth", "I", false)
  | 4 => ("GasLedger$Machine", "refund", "I", false)
  | _ => ("GasLedger$Machine", "goers", "I", false)
def t_Mac : Nat → FieldType := fun k => match k with
  | 0 => .object "GasLedger$Accounts"
  | 1 => .object "GasLedger$Logs"
  | 2 => .array (.object "GasLedger$Frame")
  | 3 => .int
  | 4 => .int
  | _ => .int
theorem nm_Mac : ∀ a, a < 6 → ∀ b, b < 6 → a ≠ b → (T_Mac a).2.1 ≠ (T_Mac b).2.1 := by decide +kernel
theorem ty_Mac : ∀ k, k < 6 → parseFieldDescriptor (T_Mac k).2.2.1 = some (t_Mac k) := by decide +kernel
theorem ly_Mac_0 : u_lay R_Mac T_Mac 0 ∈ cx_tb := gx_tb (c := (Jvm.Cond.laysFinal "GasLedger$Machine" "GasLedger$Machine" "accounts" "LGasLedger$Accounts;")) 210 (by decide +kernel) (by decide +kernel)
theorem ly_Mac_1 : u_lay R_Mac T_Mac 1 ∈ cx_tb := gx_tb (c := (Jvm.Cond.laysFinal "GasLedger$Machine" "GasLedger$Machine" "logs" "LGasLedger$Logs;")) 212 (by decide +kernel) (by decide +kernel)
theorem ly_Mac_2 : u_lay R_Mac T_Mac 2 ∈ cx_tb := gx_tb (c := (Jvm.Cond.laysFinal "GasLedger$Machine" "GasLedger$Machine" "frames" "[LGasLedger$Frame;")) 214 (by decide +kernel) (by decide +kernel)
theorem ly_Mac_3 : u_lay R_Mac T_Mac 3 ∈ cx_tb := gx_tb (c := (Jvm.Cond.lays "GasLedger$Machine" "GasLedger$Machine" "depth" "I")) 216 (by decide +kernel) (by decide +kernel)
theorem ly_Mac_4 : u_lay R_Mac T_Mac 4 ∈ cx_tb := gx_tb (c := (Jvm.Cond.lays "GasLedger$Machine" "GasLedger$Machine" "refund" "I")) 218 (by decide +kernel) (by decide +kernel)
theorem ly_Mac_5 : u_lay R_Mac T_Mac 5 ∈ cx_tb := gx_tb (c := (Jvm.Cond.lays "GasLedger$Machine" "GasLedger$Machine" "goers" "I")) 220 (by decide +kernel) (by decide +kernel)
theorem in_Mac : ∀ w ∈ u_ws R_Mac T_Mac 6, w ∈ cx_tb := by
  intro w hw
  obtain ⟨k, hk, rfl⟩ := List.mem_map.mp hw
  have hk : k < 6 := List.mem_range.mp hk
  match k, hk with
  | 0, _ => exact ly_Mac_0
  | 1, _ => exact ly_Mac_1
  | 2, _ => exact ly_Mac_2
  | 3, _ => exact ly_Mac_3
  | 4, _ => exact ly_Mac_4
  | 5, _ => exact ly_Mac_5
  | k + 6, hk => exact absurd hk (by omega)
def R_Rec : String := "GasLedger$Receipts"
def T_Rec : u_T := fun k => match k with
  | 0 => ("GasLedger$Receipts", "statuses", "[I", true)
  | 1 => ("GasLedger$Receipts", "usedGas", "[I", true)
  | 2 => ("GasLedger$Receipts", "outputs", "[I", true)
  | 3 => ("GasLedger$Receipts", "logCounts", "[I", true)
  | _ => ("GasLedger$Receipts", "count", "I", false)
def t_Rec : Nat → FieldType := fun k => match k with
  | 0 => .array .int
  | 1 => .array .int
  | 2 => .array .int
  | 3 => .array .int
  | _ => .int
theorem nm_Rec : ∀ a, a < 5 → ∀ b, b < 5 → a ≠ b → (T_Rec a).2.1 ≠ (T_Rec b).2.1 := by decide +kernel
theorem ty_Rec : ∀ k, k < 5 → parseFieldDescriptor (T_Rec k).2.2.1 = some (t_Rec k) := by decide +kernel
theorem ly_Rec_0 : u_lay R_Rec T_Rec 0 ∈ cx_tb := gx_tb (c := (Jvm.Cond.laysFinal "GasLedger$Receipts" "GasLedger$Receipts" "statuses" "[I")) 237 (by decide +kernel) (by decide +kernel)
theorem ly_Rec_1 : u_lay R_Rec T_Rec 1 ∈ cx_tb := gx_tb (c := (Jvm.Cond.laysFinal "GasLedger$Receipts" "GasLedger$Receipts" "usedGas" "[I")) 239 (by decide +kernel) (by decide +kernel)
theorem ly_Rec_2 : u_lay R_Rec T_Rec 2 ∈ cx_tb := gx_tb (c := (Jvm.Cond.laysFinal "GasLedger$Receipts" "GasLedger$Receipts" "outputs" "[I")) 241 (by decide +kernel) (by decide +kernel)
theorem ly_Rec_3 : u_lay R_Rec T_Rec 3 ∈ cx_tb := gx_tb (c := (Jvm.Cond.laysFinal "GasLedger$Receipts" "GasLedger$Receipts" "logCounts" "[I")) 243 (by decide +kernel) (by decide +kernel)
theorem ly_Rec_4 : u_lay R_Rec T_Rec 4 ∈ cx_tb := gx_tb (c := (Jvm.Cond.lays "GasLedger$Receipts" "GasLedger$Receipts" "count" "I")) 245 (by decide +kernel) (by decide +kernel)
theorem in_Rec : ∀ w ∈ u_ws R_Rec T_Rec 5, w ∈ cx_tb := by
  intro w hw
  obtain ⟨k, hk, rfl⟩ := List.mem_map.mp hw
  have hk : k < 5 := List.mem_range.mp hk
  match k, hk with
  | 0, _ => exact ly_Rec_0
  | 1, _ => exact ly_Rec_1
  | 2, _ => exact ly_Rec_2
  | 3, _ => exact ly_Rec_3
  | 4, _ => exact ly_Rec_4
  | k + 5, hk => exact absurd hk (by omega)
def R_Led : String := "GasLedger"
def T_Led : u_T := fun k => match k with
  | 0 => ("GasLedger", "machine", "LGasLedger$Machine;", true)
  | 1 => ("GasLedger", "atBegin", "LGasLedger$Accounts;", true)
  | 2 => ("GasLedger", "receipts", "LGasLedger$Receipts;", true)
  | 3 => ("GasLedger", "termsLimit", "I", false)
  | 4 => ("GasLedger", "termsPrice", "I", false)
  | 5 => ("GasLedger", "termsOff", "I", false)
  | 6 => ("GasLedger", "underWay", "Z", false)
  | 7 => ("GasLedger", "time", "I", false)
  | 8 => ("GasLedger", "miner", "I", false)
  | 9 => ("GasLedger", "usedGas", "I", false)
  | 10 => ("GasLedger", "begun", "I", false)
  | 11 => ("GasLedger", "accepted", "I", false)
  | 12 => ("GasLedger", "rejected", "I", false)
  | _ => ("GasLedger", "latestTime", "I", false)
def t_Led : Nat → FieldType := fun k => match k with
  | 0 => .object "GasLedger$Machine"
  | 1 => .object "GasLedger$Accounts"
  | 2 => .object "GasLedger$Receipts"
  | 3 => .int
  | 4 => .int
  | 5 => .int
  | 6 => .boolean
  | 7 => .int
  | 8 => .int
  | 9 => .int
  | 10 => .int
  | 11 => .int
  | 12 => .int
  | _ => .int
theorem nm_Led : ∀ a, a < 14 → ∀ b, b < 14 → a ≠ b → (T_Led a).2.1 ≠ (T_Led b).2.1 := by decide +kernel
theorem ty_Led : ∀ k, k < 14 → parseFieldDescriptor (T_Led k).2.2.1 = some (t_Led k) := by decide +kernel
theorem ly_Led_0 : u_lay R_Led T_Led 0 ∈ cx_tb := gx_tb (c := (Jvm.Cond.laysFinal "GasLedger" "GasLedger" "machine" "LGasLedger$Machine;")) 262 (by decide +kernel) (by decide +kernel)
theorem ly_Led_1 : u_lay R_Led T_Led 1 ∈ cx_tb := gx_tb (c := (Jvm.Cond.laysFinal "GasLedger" "GasLedger" "atBegin" "LGasLedger$Accounts;")) 264 (by decide +kernel) (by decide +kernel)
theorem ly_Led_2 : u_lay R_Led T_Led 2 ∈ cx_tb := gx_tb (c := (Jvm.Cond.laysFinal "GasLedger" "GasLedger" "receipts" "LGasLedger$Receipts;")) 266 (by decide +kernel) (by decide +kernel)
theorem ly_Led_3 : u_lay R_Led T_Led 3 ∈ cx_tb := gx_tb (c := (Jvm.Cond.lays "GasLedger" "GasLedger" "termsLimit" "I")) 268 (by decide +kernel) (by decide +kernel)
theorem ly_Led_4 : u_lay R_Led T_Led 4 ∈ cx_tb := gx_tb (c := (Jvm.Cond.lays "GasLedger" "GasLedger" "termsPrice" "I")) 270 (by decide +kernel) (by decide +kernel)
theorem ly_Led_5 : u_lay R_Led T_Led 5 ∈ cx_tb := gx_tb (c := (Jvm.Cond.lays "GasLedger" "GasLedger" "termsOff" "I")) 272 (by decide +kernel) (by decide +kernel)
theorem ly_Led_6 : u_lay R_Led T_Led 6 ∈ cx_tb := gx_tb (c := (Jvm.Cond.lays "GasLedger" "GasLedger" "underWay" "Z")) 274 (by decide +kernel) (by decide +kernel)
theorem ly_Led_7 : u_lay R_Led T_Led 7 ∈ cx_tb := gx_tb (c := (Jvm.Cond.lays "GasLedger" "GasLedger" "time" "I")) 276 (by decide +kernel) (by decide +kernel)
theorem ly_Led_8 : u_lay R_Led T_Led 8 ∈ cx_tb := gx_tb (c := (Jvm.Cond.lays "GasLedger" "GasLedger" "miner" "I")) 278 (by decide +kernel) (by decide +kernel)
theorem ly_Led_9 : u_lay R_Led T_Led 9 ∈ cx_tb := gx_tb (c := (Jvm.Cond.lays "GasLedger" "GasLedger" "usedGas" "I")) 280 (by decide +kernel) (by decide +kernel)
theorem ly_Led_10 : u_lay R_Led T_Led 10 ∈ cx_tb := gx_tb (c := (Jvm.Cond.lays "GasLedger" "GasLedger" "begun" "I")) 282 (by decide +kernel) (by decide +kernel)
theorem ly_Led_11 : u_lay R_Led T_Led 11 ∈ cx_tb := gx_tb (c := (Jvm.Cond.lays "GasLedger" "GasLedger" "accepted" "I")) 284 (by decide +kernel) (by decide +kernel)
theorem ly_Led_12 : u_lay R_Led T_Led 12 ∈ cx_tb := gx_tb (c := (Jvm.Cond.lays "GasLedger" "GasLedger" "rejected" "I")) 286 (by decide +kernel) (by decide +kernel)
theorem ly_Led_13 : u_lay R_Led T_Led 13 ∈ cx_tb := gx_tb (c := (Jvm.Cond.lays "GasLedger" "GasLedger" "latestTime" "I")) 288 (by decide +kernel) (by decide +kernel)
theorem in_Led : ∀ w ∈ u_ws R_Led T_Led 14, w ∈ cx_tb := by
  intro w hw
  obtain ⟨k, hk, rfl⟩ := List.mem_map.mp hw
  have hk : k < 14 := List.mem_range.mp hk
  match k, hk with
  | 0, _ => exact ly_Led_0
  | 1, _ => exact ly_Led_1
  | 2, _ => exact ly_Led_2
  | 3, _ => exact ly_Led_3
  | 4, _ => exact ly_Led_4
  | 5, _ => exact ly_Led_5
  | 6, _ => exact ly_Led_6
  | 7, _ => exact ly_Led_7
  | 8, _ => exact ly_Led_8
  | 9, _ => exact ly_Led_9
  | 10, _ => exact ly_Led_10
  | 11, _ => exact ly_Led_11
  | 12, _ => exact ly_Led_12
  | 13, _ => exact ly_Led_13
  | k + 14, hk => exact absurd hk (by omega)
def R_Mod : String := "GasLedgerModel"
def T_Mod : u_T := fun k => match k with
  | 0 => ("GasLedgerModel", "now", "[I", true)
  | 1 => ("GasLedgerModel", "before", "[I", true)
  | 2 => ("GasLedgerModel", "refund", "I", false)
  | 3 => ("GasLedgerModel", "begun", "I", false)
  | 4 => ("GasLedgerModel", "open", "Z", false)
  | 5 => ("GasLedgerModel", "miner", "I", false)
  | 6 => ("GasLedgerModel", "time", "I", false)
  | 7 => ("GasLedgerModel", "latest", "I", false)
  | 8 => ("GasLedgerModel", "accepted", "I", false)
  | 9 => ("GasLedgerModel", "rejected", "I", false)
  | 10 => ("GasLedgerModel", "used", "I", false)
  | 11 => ("GasLedgerModel", "receipts", "I", false)
  | 12 => ("GasLedgerModel", "receipt", "[I", true)
  | 13 => ("GasLedgerModel", "logs", "I", false)
  | 14 => ("GasLedgerModel", "logAccount", "[I", true)
  | 15 => ("GasLedgerModel", "logNumber", "[I", true)
  | 16 => ("GasLedgerModel", "limit", "I", false)
  | 17 => ("GasLedgerModel", "price", "I", false)
  | 18 => ("GasLedgerModel", "off", "I", false)
  | 19 => ("GasLedgerModel", "top", "I", false)
  | 20 => ("GasLedgerModel", "self", "[I", true)
  | 21 => ("GasLedgerModel", "runs", "[I", true)
  | 22 => ("GasLedgerModel", "place", "[I", true)
  | 23 => ("GasLedgerModel", "caller", "[I", true)
  | 24 => ("GasLedgerModel", "value", "[I", true)
  | 25 => ("GasLedgerModel", "input", "[I", true)
  | 26 => ("GasLedgerModel", "gas", "[I", true)
  | 27 => ("GasLedgerModel", "size", "[I", true)
  | 28 => ("GasLedgerModel", "stack", "[I", true)
  | 29 => ("GasLedgerModel", "copies", "[I", true)
  | 30 => ("GasLedgerModel", "refunds", "[I", true)
  | 31 => ("GasLedgerModel", "logsThen", "[I", true)
  | 32 => ("GasLedgerModel", "left", "I", false)
  | 33 => ("GasLedgerModel", "status", "I", false)
  | 34 => ("GasLedgerModel", "output", "I", false)
  | 35 => ("GasLedgerModel", "node", "[I", true)
  | 36 => ("GasLedgerModel", "has", "[Z", true)
  | 37 => ("GasLedgerModel", "worth", "[I", true)
  | _ => ("GasLedgerModel", "values", "[I", true)
def t_Mod : Nat → FieldType := fun k => match k with
  | 0 => .array .int
  | 1 => .array .int
  | 2 => .int
  | 3 => .int
  | 4 => .boolean
  | 5 => .int
  | 6 => .int
  | 7 => .int
  | 8 => .int
  | 9 => .int
  | 10 => .int
  | 11 => .int
  | 12 => .array .int
  | 13 => .int
  | 14 => .array .int
  | 15 => .array .int
  | 16 => .int
  | 17 => .int
  | 18 => .int
  | 19 => .int
  | 20 => .array .int
  | 21 => .array .int
  | 22 => .array .int
  | 23 => .array .int
  | 24 => .array .int
  | 25 => .array .int
  | 26 => .array .int
  | 27 => .array .int
  | 28 => .array .int
  | 29 => .array .int
  | 30 => .array .int
  | 31 => .array .int
  | 32 => .int
  | 33 => .int
  | 34 => .int
  | 35 => .array .int
  | 36 => .array .boolean
  | 37 => .array .int
  | _ => .array .int
theorem nm_Mod : ∀ a, a < 39 → ∀ b, b < 39 → a ≠ b → (T_Mod a).2.1 ≠ (T_Mod b).2.1 := by decide +kernel
theorem ty_Mod : ∀ k, k < 39 → parseFieldDescriptor (T_Mod k).2.2.1 = some (t_Mod k) := by decide +kernel
theorem ly_Mod_0 : u_lay R_Mod T_Mod 0 ∈ cx_tb := gx_tb (c := (Jvm.Cond.laysFinal "GasLedgerModel" "GasLedgerModel" "now" "[I")) 640 (by decide +kernel) (by decide +kernel)
theorem ly_Mod_1 : u_lay R_Mod T_Mod 1 ∈ cx_tb := gx_tb (c := (Jvm.Cond.laysFinal "GasLedgerModel" "GasLedgerModel" "before" "[I")) 642 (by decide +kernel) (by decide +kernel)
theorem ly_Mod_2 : u_lay R_Mod T_Mod 2 ∈ cx_tb := gx_tb (c := (Jvm.Cond.lays "GasLedgerModel" "GasLedgerModel" "refund" "I")) 644 (by decide +kernel) (by decide +kernel)
theorem ly_Mod_3 : u_lay R_Mod T_Mod 3 ∈ cx_tb := gx_tb (c := (Jvm.Cond.lays "GasLedgerModel" "GasLedgerModel" "begun" "I")) 646 (by decide +kernel) (by decide +kernel)
theorem ly_Mod_4 : u_lay R_Mod T_Mod 4 ∈ cx_tb := gx_tb (c := (Jvm.Cond.lays "GasLedgerModel" "GasLedgerModel" "open" "Z")) 648 (by decide +kernel) (by decide +kernel)
theorem ly_Mod_5 : u_lay R_Mod T_Mod 5 ∈ cx_tb := gx_tb (c := (Jvm.Cond.lays "GasLedgerModel" "GasLedgerModel" "miner" "I")) 650 (by decide +kernel) (by decide +kernel)
theorem ly_Mod_6 : u_lay R_Mod T_Mod 6 ∈ cx_tb := gx_tb (c := (Jvm.Cond.lays "GasLedgerModel" "GasLedgerModel" "time" "I")) 652 (by decide +kernel) (by decide +kernel)
theorem ly_Mod_7 : u_lay R_Mod T_Mod 7 ∈ cx_tb := gx_tb (c := (Jvm.Cond.lays "GasLedgerModel" "GasLedgerModel" "latest" "I")) 654 (by decide +kernel) (by decide +kernel)
theorem ly_Mod_8 : u_lay R_Mod T_Mod 8 ∈ cx_tb := gx_tb (c := (Jvm.Cond.lays "GasLedgerModel" "GasLedgerModel" "accepted" "I")) 656 (by decide +kernel) (by decide +kernel)
theorem ly_Mod_9 : u_lay R_Mod T_Mod 9 ∈ cx_tb := gx_tb (c := (Jvm.Cond.lays "GasLedgerModel" "GasLedgerModel" "rejected" "I")) 658 (by decide +kernel) (by decide +kernel)
theorem ly_Mod_10 : u_lay R_Mod T_Mod 10 ∈ cx_tb := gx_tb (c := (Jvm.Cond.lays "GasLedgerModel" "GasLedgerModel" "used" "I")) 660 (by decide +kernel) (by decide +kernel)
theorem ly_Mod_11 : u_lay R_Mod T_Mod 11 ∈ cx_tb := gx_tb (c := (Jvm.Cond.lays "GasLedgerModel" "GasLedgerModel" "receipts" "I")) 662 (by decide +kernel) (by decide +kernel)
theorem ly_Mod_12 : u_lay R_Mod T_Mod 12 ∈ cx_tb := gx_tb (c := (Jvm.Cond.laysFinal "GasLedgerModel" "GasLedgerModel" "receipt" "[I")) 664 (by decide +kernel) (by decide +kernel)
theorem ly_Mod_13 : u_lay R_Mod T_Mod 13 ∈ cx_tb := gx_tb (c := (Jvm.Cond.lays "GasLedgerModel" "GasLedgerModel" "logs" "I")) 666 (by decide +kernel) (by decide +kernel)
theorem ly_Mod_14 : u_lay R_Mod T_Mod 14 ∈ cx_tb := gx_tb (c := (Jvm.Cond.laysFinal "GasLedgerModel" "GasLedgerModel" "logAccount" "[I")) 668 (by decide +kernel) (by decide +kernel)
theorem ly_Mod_15 : u_lay R_Mod T_Mod 15 ∈ cx_tb := gx_tb (c := (Jvm.Cond.laysFinal "GasLedgerModel" "GasLedgerModel" "logNumber" "[I")) 670 (by decide +kernel) (by decide +kernel)
theorem ly_Mod_16 : u_lay R_Mod T_Mod 16 ∈ cx_tb := gx_tb (c := (Jvm.Cond.lays "GasLedgerModel" "GasLedgerModel" "limit" "I")) 672 (by decide +kernel) (by decide +kernel)
theorem ly_Mod_17 : u_lay R_Mod T_Mod 17 ∈ cx_tb := gx_tb (c := (Jvm.Cond.lays "GasLedgerModel" "GasLedgerModel" "price" "I")) 674 (by decide +kernel) (by decide +kernel)
theorem ly_Mod_18 : u_lay R_Mod T_Mod 18 ∈ cx_tb := gx_tb (c := (Jvm.Cond.lays "GasLedgerModel" "GasLedgerModel" "off" "I")) 676 (by decide +kernel) (by decide +kernel)
theorem ly_Mod_19 : u_lay R_Mod T_Mod 19 ∈ cx_tb := gx_tb (c := (Jvm.Cond.lays "GasLedgerModel" "GasLedgerModel" "top" "I")) 678 (by decide +kernel) (by decide +kernel)
theorem ly_Mod_20 : u_lay R_Mod T_Mod 20 ∈ cx_tb := gx_tb (c := (Jvm.Cond.laysFinal "GasLedgerModel" "GasLedgerModel" "self" "[I")) 680 (by decide +kernel) (by decide +kernel)
theorem ly_Mod_21 : u_lay R_Mod T_Mod 21 ∈ cx_tb := gx_tb (c := (Jvm.Cond.laysFinal "GasLedgerModel" "GasLedgerModel" "runs" "[I")) 682 (by decide +kernel) (by decide +kernel)
theorem ly_Mod_22 : u_lay R_Mod T_Mod 22 ∈ cx_tb := gx_tb (c := (Jvm.Cond.laysFinal "GasLedgerModel" "GasLedgerModel" "place" "[I")) 684 (by decide +kernel) (by decide +kernel)
theorem ly_Mod_23 : u_lay R_Mod T_Mod 23 ∈ cx_tb := gx_tb (c := (Jvm.Cond.laysFinal "GasLedgerModel" "GasLedgerModel" "caller" "[I")) 686 (by decide +kernel) (by decide +kernel)
theorem ly_Mod_24 : u_lay R_Mod T_Mod 24 ∈ cx_tb := gx_tb (c := (Jvm.Cond.laysFinal "GasLedgerModel" "GasLedgerModel" "value" "[I")) 688 (by decide +kernel) (by decide +kernel)
theorem ly_Mod_25 : u_lay R_Mod T_Mod 25 ∈ cx_tb := gx_tb (c := (Jvm.Cond.laysFinal "GasLedgerModel" "GasLedgerModel" "input" "[I")) 690 (by decide +kernel) (by decide +kernel)
theorem ly_Mod_26 : u_lay R_Mod T_Mod 26 ∈ cx_tb := gx_tb (c := (Jvm.Cond.laysFinal "GasLedgerModel" "GasLedgerModel" "gas" "[I")) 692 (by decide +kernel) (by decide +kernel)
theorem ly_Mod_27 : u_lay R_Mod T_Mod 27 ∈ cx_tb := gx_tb (c := (Jvm.Cond.laysFinal "GasLedgerModel" "GasLedgerModel" "size" "[I")) 694 (by decide +kernel) (by decide +kernel)
theorem ly_Mod_28 : u_lay R_Mod T_Mod 28 ∈ cx_tb := gx_tb (c := (Jvm.Cond.laysFinal "GasLedgerModel" "GasLedgerModel" "stack" "[I")) 696 (by decide +kernel) (by decide +kernel)
theorem ly_Mod_29 : u_lay R_Mod T_Mod 29 ∈ cx_tb := gx_tb (c := (Jvm.Cond.laysFinal "GasLedgerModel" "GasLedgerModel" "copies" "[I")) 698 (by decide +kernel) (by decide +kernel)
theorem ly_Mod_30 : u_lay R_Mod T_Mod 30 ∈ cx_tb := gx_tb (c := (Jvm.Cond.laysFinal "GasLedgerModel" "GasLedgerModel" "refunds" "[I")) 700 (by decide +kernel) (by decide +kernel)
theorem ly_Mod_31 : u_lay R_Mod T_Mod 31 ∈ cx_tb := gx_tb (c := (Jvm.Cond.laysFinal "GasLedgerModel" "GasLedgerModel" "logsThen" "[I")) 702 (by decide +kernel) (by decide +kernel)
theorem ly_Mod_32 : u_lay R_Mod T_Mod 32 ∈ cx_tb := gx_tb (c := (Jvm.Cond.lays "GasLedgerModel" "GasLedgerModel" "left" "I")) 704 (by decide +kernel) (by decide +kernel)
theorem ly_Mod_33 : u_lay R_Mod T_Mod 33 ∈ cx_tb := gx_tb (c := (Jvm.Cond.lays "GasLedgerModel" "GasLedgerModel" "status" "I")) 706 (by decide +kernel) (by decide +kernel)
theorem ly_Mod_34 : u_lay R_Mod T_Mod 34 ∈ cx_tb := gx_tb (c := (Jvm.Cond.lays "GasLedgerModel" "GasLedgerModel" "output" "I")) 708 (by decide +kernel) (by decide +kernel)
theorem ly_Mod_35 : u_lay R_Mod T_Mod 35 ∈ cx_tb := gx_tb (c := (Jvm.Cond.laysFinal "GasLedgerModel" "GasLedgerModel" "node" "[I")) 710 (by decide +kernel) (by decide +kernel)
theorem ly_Mod_36 : u_lay R_Mod T_Mod 36 ∈ cx_tb := gx_tb (c := (Jvm.Cond.laysFinal "GasLedgerModel" "GasLedgerModel" "has" "[Z")) 712 (by decide +kernel) (by decide +kernel)
theorem ly_Mod_37 : u_lay R_Mod T_Mod 37 ∈ cx_tb := gx_tb (c := (Jvm.Cond.laysFinal "GasLedgerModel" "GasLedgerModel" "worth" "[I")) 714 (by decide +kernel) (by decide +kernel)
theorem ly_Mod_38 : u_lay R_Mod T_Mod 38 ∈ cx_tb := gx_tb (c := (Jvm.Cond.laysFinal "GasLedgerModel" "GasLedgerModel" "values" "[I")) 716 (by decide +kernel) (by decide +kernel)
theorem in_Mod : ∀ w ∈ u_ws R_Mod T_Mod 39, w ∈ cx_tb := by
  intro w hw
  obtain ⟨k, hk, rfl⟩ := List.mem_map.mp hw
  have hk : k < 39 := List.mem_range.mp hk
  match k, hk with
  | 0, _ => exact ly_Mod_0
  | 1, _ => exact ly_Mod_1
  | 2, _ => exact ly_Mod_2
  | 3, _ => exact ly_Mod_3
  | 4, _ => exact ly_Mod_4
  | 5, _ => exact ly_Mod_5
  | 6, _ => exact ly_Mod_6
  | 7, _ => exact ly_Mod_7
  | 8, _ => exact ly_Mod_8
  | 9, _ => exact ly_Mod_9
  | 10, _ => exact ly_Mod_10
  | 11, _ => exact ly_Mod_11
  | 12, _ => exact ly_Mod_12
  | 13, _ => exact ly_Mod_13
  | 14, _ => exact ly_Mod_14
  | 15, _ => exact ly_Mod_15
  | 16, _ => exact ly_Mod_16
  | 17, _ => exact ly_Mod_17
  | 18, _ => exact ly_Mod_18
  | 19, _ => exact ly_Mod_19
  | 20, _ => exact ly_Mod_20
  | 21, _ => exact ly_Mod_21
  | 22, _ => exact ly_Mod_22
  | 23, _ => exact ly_Mod_23
  | 24, _ => exact ly_Mod_24
  | 25, _ => exact ly_Mod_25
  | 26, _ => exact ly_Mod_26
  | 27, _ => exact ly_Mod_27
  | 28, _ => exact ly_Mod_28
  | 29, _ => exact ly_Mod_29
  | 30, _ => exact ly_Mod_30
  | 31, _ => exact ly_Mod_31
  | 32, _ => exact ly_Mod_32
  | 33, _ => exact ly_Mod_33
  | 34, _ => exact ly_Mod_34
  | 35, _ => exact ly_Mod_35
  | 36, _ => exact ly_Mod_36
  | 37, _ => exact ly_Mod_37
  | 38, _ => exact ly_Mod_38
  | k + 39, hk => exact absurd hk (by omega)
abbrev cx_cl : List vw_C := [(R_Acc, T_Acc, 6), (R_Frm, T_Frm, 17), (R_Log, T_Log, 4), (R_Mac, T_Mac, 6), (R_Rec, T_Rec, 5), (R_Led, T_Led, 14), (R_Mod, T_Mod, 39)]
end
section
abbrev b_Led_init : ByteArray := prog_1_method_1_code
def y_Led_init : MethodName := ⟨"GasLedger", "<init>", "()V"⟩
abbrev rt_Led_init : Option FieldType := (Option.none : Option FieldType)
theorem cd_Led_init : Cond.code y_Led_init b_Led_init 1 rt_Led_init ∈ cx_tb := gx_tb (c := (Jvm.Cond.code ({ cls := "GasLedger", name := "<init>", desc := "()V" } : Jvm.MethodName) prog_1_method_1_code (1 : Nat) (Option.none : Option Jvm.ClassFile.FieldType))) 58 (by decide +kernel) (by decide +kernel)
abbrev w_Led_init : List Cond := Cond.code y_Led_init b_Led_init 1 rt_Led_init :: cx_tb
abbrev b_Led_fund : ByteArray := prog_1_method_2_code
def y_Led_fund : MethodName := ⟨"GasLedger", "fund", "(II)Z"⟩
abbrev rt_Led_fund : Option FieldType := (Option.some FieldType.boolean)
theorem cd_Led_fund : Cond.code y_Led_fund b_Led_fund 3 rt_Led_fund ∈ cx_tb := gx_tb (c := (Jvm.Cond.code ({ cls := "GasLedger", name := "fund", desc := "(II)Z" } : Jvm.MethodName) prog_1_method_2_code (3 : Nat) (Option.some Jvm.ClassFile.FieldType.boolean))) 294 (by decide +kernel) (by decide +kernel)
abbrev w_Led_fund : List Cond := Cond.code y_Led_fund b_Led_fund 3 rt_Led_fund :: cx_tb
abbrev b_Led_code : ByteArray := prog_1_method_3_code
def y_Led_code : MethodName := ⟨"GasLedger", "code", "(II)Z"⟩
abbrev rt_Led_code : Option FieldType := (Option.some FieldType.boolean)
theorem cd_Led_code : Cond.code y_Led_code b_Led_code 3 rt_Led_code ∈ cx_tb := gx_tb (c := (Jvm.Cond.code ({ cls := "GasLedger", name := "code", desc := "(II)Z" } : Jvm.MethodName) prog_1_method_3_code (3 : Nat) (Option.some Jvm.ClassFile.FieldType.boolean))) 302 (by decide +kernel) (by decide +kernel)
abbrev w_Led_code : List Cond := Cond.code y_Led_code b_Led_code 3 rt_Led_code :: cx_tb
abbrev b_Led_preset : ByteArray := prog_1_method_4_code
def y_Led_preset : MethodName := ⟨"GasLedger", "preset", "(III)Z"⟩
abbrev rt_Led_preset : Option FieldType := (Option.some FieldType.boolean)
theorem cd_Led_preset : Cond.code y_Led_preset b_Led_preset 4 rt_Led_preset ∈ cx_tb := gx_tb (c := (Jvm.Cond.code ({ cls := "GasLedger", name := "preset", desc := "(III)Z" } : Jvm.MethodName) prog_1_method_4_code (4 : Nat) (Option.some Jvm.ClassFile.FieldType.boolean))) 310 (by decide +kernel) (by decide +kernel)
abbrev w_Led_preset : List Cond := Cond.code y_Led_preset b_Led_preset 4 rt_Led_preset :: cx_tb
abbrev b_Led_begin : ByteArray := prog_1_method_5_code
def y_Led_begin : MethodName := ⟨"GasLedger", "begin", "(II)Z"⟩
abbrev rt_Led_begin : Option FieldType := (Option.some FieldType.boolean)
theorem cd_Led_begin : Cond.code y_Led_begin b_Led_begin 3 rt_Led_begin ∈ cx_tb := gx_tb (c := (Jvm.Cond.code ({ cls := "GasLedger", name := "begin", desc := "(II)Z" } : Jvm.MethodName) prog_1_method_5_code (3 : Nat) (Option.some Jvm.ClassFile.FieldType.boolean))) 317 (by decide +kernel) (by decide +kernel)
abbrev w_Led_begin : List Cond := Cond.code y_Led_begin b_Led_begin 3 rt_Led_begin :: cx_tb
abbrev b_Led_send : ByteArray := prog_1_method_6_code
def y_Led_send : MethodName := ⟨"GasLedger", "send", "(IIII)I"⟩
abbrev rt_Led_send : Option FieldType := (Option.some FieldType.int)
theorem cd_Led_send : Cond.code y_Led_send b_Led_send 6 rt_Led_send ∈ cx_tb := gx_tb (c := (Jvm.Cond.code ({ cls := "GasLedger", name := "send", desc := "(IIII)I" } : Jvm.MethodName) prog_1_method_6_code (6 : Nat) (Option.some Jvm.ClassFile.FieldType.int))) 332 (by decide +kernel) (by decide +kernel)
abbrev w_Led_send : List Cond := Cond.code y_Led_send b_Led_send 6 rt_Led_send :: cx_tb
abbrev b_Led_terms : ByteArray := prog_1_method_7_code
def y_Led_terms : MethodName := ⟨"GasLedger", "terms", "(III)V"⟩
abbrev rt_Led_terms : Option FieldType := (Option.none : Option FieldType)
theorem cd_Led_terms : Cond.code y_Led_terms b_Led_terms 4 rt_Led_terms ∈ cx_tb := gx_tb (c := (Jvm.Cond.code ({ cls := "GasLedger", name := "terms", desc := "(III)V" } : Jvm.MethodName) prog_1_method_7_code (4 : Nat) (Option.none : Option Jvm.ClassFile.FieldType))) 517 (by decide +kernel) (by decide +kernel)
abbrev w_Led_terms : List Cond := Cond.code y_Led_terms b_Led_terms 4 rt_Led_terms :: cx_tb
abbrev b_Led_pay : ByteArray := prog_1_method_8_code
def y_Led_pay : MethodName := ⟨"GasLedger", "pay", "(IIII)I"⟩
abbrev rt_Led_pay : Option FieldType := (Option.some FieldType.int)
theorem cd_Led_pay : Cond.code y_Led_pay b_Led_pay 8 rt_Led_pay ∈ cx_tb := gx_tb (c := (Jvm.Cond.code ({ cls := "GasLedger", name := "pay", desc := "(IIII)I" } : Jvm.MethodName) prog_1_method_8_code (8 : Nat) (Option.some Jvm.ClassFile.FieldType.int))) 521 (by decide +kernel) (by decide +kernel)
abbrev w_Led_pay : List Cond := Cond.code y_Led_pay b_Led_pay 8 rt_Led_pay :: cx_tb
abbrev b_Led_seal : ByteArray := prog_1_method_9_code
def y_Led_seal : MethodName := ⟨"GasLedger", "seal", "(I)I"⟩
abbrev rt_Led_seal : Option FieldType := (Option.some FieldType.int)
theorem cd_Led_seal : Cond.code y_Led_seal b_Led_seal 2 rt_Led_seal ∈ cx_tb := gx_tb (c := (Jvm.Cond.code ({ cls := "GasLedger", name := "seal", desc := "(I)I" } : Jvm.MethodName) prog_1_method_9_code (2 : Nat) (Option.some Jvm.ClassFile.FieldType.int))) 526 (by decide +kernel) (by decide +kernel)
abbrev w_Led_seal : List Cond := Cond.code y_Led_seal b_Led_seal 2 rt_Led_seal :: cx_tb
abbrev b_Led_look : ByteArray := prog_1_method_10_code
def y_Led_look : MethodName := ⟨"GasLedger", "look", "(II)I"⟩
abbrev rt_Led_look : Option FieldType := (Option.some FieldType.int)
theorem cd_Led_look : Cond.code y_Led_look b_Led_look 3 rt_Led_look ∈ cx_tb := gx_tb (c := (Jvm.Cond.code ({ cls := "GasLedger", name := "look", desc := "(II)I" } : Jvm.MethodName) prog_1_method_10_code (3 : Nat) (Option.some Jvm.ClassFile.FieldType.int))) 530 (by decide +kernel) (by decide +kernel)
abbrev w_Led_look : List Cond := Cond.code y_Led_look b_Led_look 3 rt_Led_look :: cx_tb
abbrev b_Led_slot : ByteArray := prog_1_method_11_code
def y_Led_slot : MethodName := ⟨"GasLedger", "slot", "(II)I"⟩
abbrev rt_Led_slot : Option FieldType := (Option.some FieldType.int)
theorem cd_Led_slot : Cond.code y_Led_slot b_Led_slot 3 rt_Led_slot ∈ cx_tb := gx_tb (c := (Jvm.Cond.code ({ cls := "GasLedger", name := "slot", desc := "(II)I" } : Jvm.MethodName) prog_1_method_11_code (3 : Nat) (Option.some Jvm.ClassFile.FieldType.int))) 555 (by decide +kernel) (by decide +kernel)
abbrev w_Led_slot : List Cond := Cond.code y_Led_slot b_Led_slot 3 rt_Led_slot :: cx_tb
abbrev b_Led_word : ByteArray := prog_1_method_12_code
def y_Led_word : MethodName := ⟨"GasLedger", "word", "(II)I"⟩
abbrev rt_Led_word : Option FieldType := (Option.some FieldType.int)
theorem cd_Led_word : Cond.code y_Led_word b_Led_word 3 rt_Led_word ∈ cx_tb := gx_tb (c := (Jvm.Cond.code ({ cls := "GasLedger", name := "word", desc := "(II)I" } : Jvm.MethodName) prog_1_method_12_code (3 : Nat) (Option.some Jvm.ClassFile.FieldType.int))) 560 (by decide +kernel) (by decide +kernel)
abbrev w_Led_word : List Cond := Cond.code y_Led_word b_Led_word 3 rt_Led_word :: cx_tb
abbrev b_Led_root : ByteArray := prog_1_method_13_code
def y_Led_root : MethodName := ⟨"GasLedger", "root", "()I"⟩
abbrev rt_Led_root : Option FieldType := (Option.some FieldType.int)
theorem cd_Led_root : Cond.code y_Led_root b_Led_root 1 rt_Led_root ∈ cx_tb := gx_tb (c := (Jvm.Cond.code ({ cls := "GasLedger", name := "root", desc := "()I" } : Jvm.MethodName) prog_1_method_13_code (1 : Nat) (Option.some Jvm.ClassFile.FieldType.int))) 565 (by decide +kernel) (by decide +kernel)
abbrev w_Led_root : List Cond := Cond.code y_Led_root b_Led_root 1 rt_Led_root :: cx_tb
abbrev b_Led_block : ByteArray := prog_1_method_14_code
def y_Led_block : MethodName := ⟨"GasLedger", "block", "(I)I"⟩
abbrev rt_Led_block : Option FieldType := (Option.some FieldType.int)
theorem cd_Led_block : Cond.code y_Led_block b_Led_block 2 rt_Led_block ∈ cx_tb := gx_tb (c := (Jvm.Cond.code ({ cls := "GasLedger", name := "block", desc := "(I)I" } : Jvm.MethodName) prog_1_method_14_code (2 : Nat) (Option.some Jvm.ClassFile.FieldType.int))) 574 (by decide +kernel) (by decide +kernel)
abbrev w_Led_block : List Cond := Cond.code y_Led_block b_Led_block 2 rt_Led_block :: cx_tb
abbrev b_Led_receipt : ByteArray := prog_1_method_15_code
def y_Led_receipt : MethodName := ⟨"GasLedger", "receipt", "(II)I"⟩
abbrev rt_Led_receipt : Option FieldType := (Option.some FieldType.int)
theorem cd_Led_receipt : Cond.code y_Led_receipt b_Led_receipt 3 rt_Led_receipt ∈ cx_tb := gx_tb (c := (Jvm.Cond.code ({ cls := "GasLedger", name := "receipt", desc := "(II)I" } : Jvm.MethodName) prog_1_method_15_code (3 : Nat) (Option.some Jvm.ClassFile.FieldType.int))) 578 (by decide +kernel) (by decide +kernel)
abbrev w_Led_receipt : List Cond := Cond.code y_Led_receipt b_Led_receipt 3 rt_Led_receipt :: cx_tb
abbrev b_Led_log : ByteArray := prog_1_method_16_code
def y_Led_log : MethodName := ⟨"GasLedger", "log", "(II)I"⟩
abbrev rt_Led_log : Option FieldType := (Option.some FieldType.int)
theorem cd_Led_log : Cond.code y_Led_log b_Led_log 3 rt_Led_log ∈ cx_tb := gx_tb (c := (Jvm.Cond.code ({ cls := "GasLedger", name := "log", desc := "(II)I" } : Jvm.MethodName) prog_1_method_16_code (3 : Nat) (Option.some Jvm.ClassFile.FieldType.int))) 586 (by decide +kernel) (by decide +kernel)
abbrev w_Led_log : List Cond := Cond.code y_Led_log b_Led_log 3 rt_Led_log :: cx_tb
abbrev b_Led_total : ByteArray := prog_1_method_17_code
def y_Led_total : MethodName := ⟨"GasLedger", "total", "()J"⟩
abbrev rt_Led_total : Option FieldType := (Option.some FieldType.long)
theorem cd_Led_total : Cond.code y_Led_total b_Led_total 4 rt_Led_total ∈ cx_tb := gx_tb (c := (Jvm.Cond.code ({ cls := "GasLedger", name := "total", desc := "()J" } : Jvm.MethodName) prog_1_method_17_code (4 : Nat) (Option.some Jvm.ClassFile.FieldType.long))) 594 (by decide +kernel) (by decide +kernel)
abbrev w_Led_total : List Cond := Cond.code y_Led_total b_Led_total 4 rt_Led_total :: cx_tb
abbrev b_Led_refusalOf : ByteArray := prog_1_method_18_code
def y_Led_refusalOf : MethodName := ⟨"GasLedger", "refusalOf", "(IIIIII)I"⟩
abbrev rt_Led_refusalOf : Option FieldType := (Option.some FieldType.int)
theorem cd_Led_refusalOf : Cond.code y_Led_refusalOf b_Led_refusalOf 9 rt_Led_refusalOf ∈ cx_tb := gx_tb (c := (Jvm.Cond.code ({ cls := "GasLedger", name := "refusalOf", desc := "(IIIIII)I" } : Jvm.MethodName) prog_1_method_18_code (9 : Nat) (Option.some Jvm.ClassFile.FieldType.int))) 336 (by decide +kernel) (by decide +kernel)
abbrev w_Led_refusalOf : List Cond := Cond.code y_Led_refusalOf b_Led_refusalOf 9 rt_Led_refusalOf :: cx_tb
abbrev b_Led_perform : ByteArray := prog_1_method_19_code
def y_Led_perform : MethodName := ⟨"GasLedger", "perform", "(IIIIII)I"⟩
abbrev rt_Led_perform : Option FieldType := (Option.some FieldType.int)
theorem cd_Led_perform : Cond.code y_Led_perform b_Led_perform 12 rt_Led_perform ∈ cx_tb := gx_tb (c := (Jvm.Cond.code ({ cls := "GasLedger", name := "perform", desc := "(IIIIII)I" } : Jvm.MethodName) prog_1_method_19_code (12 : Nat) (Option.some Jvm.ClassFile.FieldType.int))) 340 (by decide +kernel) (by decide +kernel)
abbrev w_Led_perform : List Cond := Cond.code y_Led_perform b_Led_perform 12 rt_Led_perform :: cx_tb
abbrev b_Led_isAccount : ByteArray := prog_1_method_20_code
def y_Led_isAccount : MethodName := ⟨"GasLedger", "isAccount", "(I)Z"⟩
abbrev rt_Led_isAccount : Option FieldType := (Option.some FieldType.boolean)
theorem cd_Led_isAccount : Cond.code y_Led_isAccount b_Led_isAccount 1 rt_Led_isAccount ∈ cx_tb := gx_tb (c := (Jvm.Cond.code ({ cls := "GasLedger", name := "isAccount", desc := "(I)Z" } : Jvm.MethodName) prog_1_method_20_code (1 : Nat) (Option.some Jvm.ClassFile.FieldType.boolean))) 297 (by decide +kernel) (by decide +kernel)
abbrev w_Led_isAccount : List Cond := Cond.code y_Led_isAccount b_Led_isAccount 1 rt_Led_isAccount :: cx_tb
abbrev b_Led_isSlot : ByteArray := prog_1_method_21_code
def y_Led_isSlot : MethodName := ⟨"GasLedger", "isSlot", "(I)Z"⟩
abbrev rt_Led_isSlot : Option FieldType := (Option.some FieldType.boolean)
theorem cd_Led_isSlot : Cond.code y_Led_isSlot b_Led_isSlot 1 rt_Led_isSlot ∈ cx_tb := gx_tb (c := (Jvm.Cond.code ({ cls := "GasLedger", name := "isSlot", desc := "(I)Z" } : Jvm.MethodName) prog_1_method_21_code (1 : Nat) (Option.some Jvm.ClassFile.FieldType.boolean))) 313 (by decide +kernel) (by decide +kernel)
abbrev w_Led_isSlot : List Cond := Cond.code y_Led_isSlot b_Led_isSlot 1 rt_Led_isSlot :: cx_tb
abbrev b_Mod_init : ByteArray := prog_9_method_1_code
def y_Mod_init : MethodName := ⟨"GasLedgerModel", "<init>", "()V"⟩
abbrev rt_Mod_init : Option FieldType := (Option.none : Option FieldType)
theorem cd_Mod_init : Cond.code y_Mod_init b_Mod_init 1 rt_Mod_init ∈ cx_tb := gx_tb (c := (Jvm.Cond.code ({ cls := "GasLedgerModel", name := "<init>", desc := "()V" } : Jvm.MethodName) prog_9_method_1_code (1 : Nat) (Option.none : Option Jvm.ClassFile.FieldType))) 599 (by decide +kernel) (by decide +kernel)
abbrev w_Mod_init : List Cond := Cond.code y_Mod_init b_Mod_init 1 rt_Mod_init :: cx_tb
abbrev b_Mod_in : ByteArray := prog_9_method_2_code
def y_Mod_in : MethodName := ⟨"GasLedgerModel", "in", "(II)Z"⟩
abbrev rt_Mod_in : Option FieldType := (Option.some FieldType.boolean)
theorem cd_Mod_in : Cond.code y_Mod_in b_Mod_in 2 rt_Mod_in ∈ cx_tb := gx_tb (c := (Jvm.Cond.code ({ cls := "GasLedgerModel", name := "in", desc := "(II)Z" } : Jvm.MethodName) prog_9_method_2_code (2 : Nat) (Option.some Jvm.ClassFile.FieldType.boolean))) 726 (by decide +kernel) (by decide +kernel)
abbrev w_Mod_in : List Cond := Cond.code y_Mod_in b_Mod_in 2 rt_Mod_in :: cx_tb
abbrev b_Mod_fund : ByteArray := prog_9_method_3_code
def y_Mod_fund : MethodName := ⟨"GasLedgerModel", "fund", "(II)Z"⟩
abbrev rt_Mod_fund : Option FieldType := (Option.some FieldType.boolean)
theorem cd_Mod_fund : Cond.code y_Mod_fund b_Mod_fund 3 rt_Mod_fund ∈ cx_tb := gx_tb (c := (Jvm.Cond.code ({ cls := "GasLedgerModel", name := "fund", desc := "(II)Z" } : Jvm.MethodName) prog_9_method_3_code (3 : Nat) (Option.some Jvm.ClassFile.FieldType.boolean))) 723 (by decide +kernel) (by decide +kernel)
abbrev w_Mod_fund : List Cond := Cond.code y_Mod_fund b_Mod_fund 3 rt_Mod_fund :: cx_tb
abbrev b_Mod_code : ByteArray := prog_9_method_4_code
def y_Mod_code : MethodName := ⟨"GasLedgerModel", "code", "(II)Z"⟩
abbrev rt_Mod_code : Option FieldType := (Option.some FieldType.boolean)
theorem cd_Mod_code : Cond.code y_Mod_code b_Mod_code 4 rt_Mod_code ∈ cx_tb := gx_tb (c := (Jvm.Cond.code ({ cls := "GasLedgerModel", name := "code", desc := "(II)Z" } : Jvm.MethodName) prog_9_method_4_code (4 : Nat) (Option.some Jvm.ClassFile.FieldType.boolean))) 731 (by decide +kernel) (by decide +kernel)
abbrev w_Mod_code : List Cond := Cond.code y_Mod_code b_Mod_code 4 rt_Mod_code :: cx_tb
abbrev b_Mod_preset : ByteArray := prog_9_method_5_code
def y_Mod_preset : MethodName := ⟨"GasLedgerModel", "preset", "(III)Z"⟩
abbrev rt_Mod_preset : Option FieldType := (Option.some FieldType.boolean)
theorem cd_Mod_preset : Cond.code y_Mod_preset b_Mod_preset 4 rt_Mod_preset ∈ cx_tb := gx_tb (c := (Jvm.Cond.code ({ cls := "GasLedgerModel", name := "preset", desc := "(III)Z" } : Jvm.MethodName) prog_9_method_5_code (4 : Nat) (Option.some Jvm.ClassFile.FieldType.boolean))) 735 (by decide +kernel) (by decide +kernel)
abbrev w_Mod_preset : List Cond := Cond.code y_Mod_preset b_Mod_preset 4 rt_Mod_preset :: cx_tb
abbrev b_Mod_mix : ByteArray := prog_9_method_6_code
def y_Mod_mix : MethodName := ⟨"GasLedgerModel", "mix", "(II)I"⟩
abbrev rt_Mod_mix : Option FieldType := (Option.some FieldType.int)
theorem cd_Mod_mix : Cond.code y_Mod_mix b_Mod_mix 3 rt_Mod_mix ∈ cx_tb := gx_tb (c := (Jvm.Cond.code ({ cls := "GasLedgerModel", name := "mix", desc := "(II)I" } : Jvm.MethodName) prog_9_method_6_code (3 : Nat) (Option.some Jvm.ClassFile.FieldType.int))) 746 (by decide +kernel) (by decide +kernel)
abbrev w_Mod_mix : List Cond := Cond.code y_Mod_mix b_Mod_mix 3 rt_Mod_mix :: cx_tb
abbrev b_Mod_map : ByteArray := prog_9_method_7_code
def y_Mod_map : MethodName := ⟨"GasLedgerModel", "map", "(I)I"⟩
abbrev rt_Mod_map : Option FieldType := (Option.some FieldType.int)
theorem cd_Mod_map : Cond.code y_Mod_map b_Mod_map 4 rt_Mod_map ∈ cx_tb := gx_tb (c := (Jvm.Cond.code ({ cls := "GasLedgerModel", name := "map", desc := "(I)I" } : Jvm.MethodName) prog_9_method_7_code (4 : Nat) (Option.some Jvm.ClassFile.FieldType.int))) 755 (by decide +kernel) (by decide +kernel)
abbrev w_Mod_map : List Cond := Cond.code y_Mod_map b_Mod_map 4 rt_Mod_map :: cx_tb
abbrev b_Mod_part : ByteArray := prog_9_method_8_code
def y_Mod_part : MethodName := ⟨"GasLedgerModel", "part", "(III)I"⟩
abbrev rt_Mod_part : Option FieldType := (Option.some FieldType.int)
theorem cd_Mod_part : Cond.code y_Mod_part b_Mod_part 10 rt_Mod_part ∈ cx_tb := gx_tb (c := (Jvm.Cond.code ({ cls := "GasLedgerModel", name := "part", desc := "(III)I" } : Jvm.MethodName) prog_9_method_8_code (10 : Nat) (Option.some Jvm.ClassFile.FieldType.int))) 759 (by decide +kernel) (by decide +kernel)
abbrev w_Mod_part : List Cond := Cond.code y_Mod_part b_Mod_part 10 rt_Mod_part :: cx_tb
abbrev b_Mod_slotsRoot : ByteArray := prog_9_method_9_code
def y_Mod_slotsRoot : MethodName := ⟨"GasLedgerModel", "slotsRoot", "(I)I"⟩
abbrev rt_Mod_slotsRoot : Option FieldType := (Option.some FieldType.int)
theorem cd_Mod_slotsRoot : Cond.code y_Mod_slotsRoot b_Mod_slotsRoot 3 rt_Mod_slotsRoot ∈ cx_tb := gx_tb (c := (Jvm.Cond.code ({ cls := "GasLedgerModel", name := "slotsRoot", desc := "(I)I" } : Jvm.MethodName) prog_9_method_9_code (3 : Nat) (Option.some Jvm.ClassFile.FieldType.int))) 751 (by decide +kernel) (by decide +kernel)
abbrev w_Mod_slotsRoot : List Cond := Cond.code y_Mod_slotsRoot b_Mod_slotsRoot 3 rt_Mod_slotsRoot :: cx_tb
abbrev b_Mod_valueOf : ByteArray := prog_9_method_10_code
def y_Mod_valueOf : MethodName := ⟨"GasLedgerModel", "valueOf", "(I)I"⟩
abbrev rt_Mod_valueOf : Option FieldType := (Option.some FieldType.int)
theorem cd_Mod_valueOf : Cond.code y_Mod_valueOf b_Mod_valueOf 4 rt_Mod_valueOf ∈ cx_tb := gx_tb (c := (Jvm.Cond.code ({ cls := "GasLedgerModel", name := "valueOf", desc := "(I)I" } : Jvm.MethodName) prog_9_method_10_code (4 : Nat) (Option.some Jvm.ClassFile.FieldType.int))) 743 (by decide +kernel) (by decide +kernel)
abbrev w_Mod_valueOf : List Cond := Cond.code y_Mod_valueOf b_Mod_valueOf 4 rt_Mod_valueOf :: cx_tb
abbrev b_Mod_empty : ByteArray := prog_9_method_11_code
def y_Mod_empty : MethodName := ⟨"GasLedgerModel", "empty", "(I)Z"⟩
abbrev rt_Mod_empty : Option FieldType := (Option.some FieldType.boolean)
theorem cd_Mod_empty : Cond.code y_Mod_empty b_Mod_empty 4 rt_Mod_empty ∈ cx_tb := gx_tb (c := (Jvm.Cond.code ({ cls := "GasLedgerModel", name := "empty", desc := "(I)Z" } : Jvm.MethodName) prog_9_method_11_code (4 : Nat) (Option.some Jvm.ClassFile.FieldType.boolean))) 763 (by decide +kernel) (by decide +kernel)
abbrev w_Mod_empty : List Cond := Cond.code y_Mod_empty b_Mod_empty 4 rt_Mod_empty :: cx_tb
abbrev b_Mod_root : ByteArray := prog_9_method_12_code
def y_Mod_root : MethodName := ⟨"GasLedgerModel", "root", "()I"⟩
abbrev rt_Mod_root : Option FieldType := (Option.some FieldType.int)
theorem cd_Mod_root : Cond.code y_Mod_root b_Mod_root 2 rt_Mod_root ∈ cx_tb := gx_tb (c := (Jvm.Cond.code ({ cls := "GasLedgerModel", name := "root", desc := "()I" } : Jvm.MethodName) prog_9_method_12_code (2 : Nat) (Option.some Jvm.ClassFile.FieldType.int))) 739 (by decide +kernel) (by decide +kernel)
abbrev w_Mod_root : List Cond := Cond.code y_Mod_root b_Mod_root 2 rt_Mod_root :: cx_tb
abbrev b_Mod_enter : ByteArray := prog_9_method_13_code
def y_Mod_enter : MethodName := ⟨"GasLedgerModel", "enter", "(IIIIII)V"⟩
abbrev rt_Mod_enter : Option FieldType := (Option.none : Option FieldType)
theorem cd_Mod_enter : Cond.code y_Mod_enter b_Mod_enter 8 rt_Mod_enter ∈ cx_tb := gx_tb (c := (Jvm.Cond.code ({ cls := "GasLedgerModel", name := "enter", desc := "(IIIIII)V" } : Jvm.MethodName) prog_9_method_13_code (8 : Nat) (Option.none : Option Jvm.ClassFile.FieldType))) 779 (by decide +kernel) (by decide +kernel)
abbrev w_Mod_enter : List Cond := Cond.code y_Mod_enter b_Mod_enter 8 rt_Mod_enter :: cx_tb
abbrev b_Mod_give : ByteArray := prog_9_method_14_code
def y_Mod_give : MethodName := ⟨"GasLedgerModel", "give", "(III)V"⟩
abbrev rt_Mod_give : Option FieldType := (Option.none : Option FieldType)
theorem cd_Mod_give : Cond.code y_Mod_give b_Mod_give 4 rt_Mod_give ∈ cx_tb := gx_tb (c := (Jvm.Cond.code ({ cls := "GasLedgerModel", name := "give", desc := "(III)V" } : Jvm.MethodName) prog_9_method_14_code (4 : Nat) (Option.none : Option Jvm.ClassFile.FieldType))) 783 (by decide +kernel) (by decide +kernel)
abbrev w_Mod_give : List Cond := Cond.code y_Mod_give b_Mod_give 4 rt_Mod_give :: cx_tb
abbrev b_Mod_push : ByteArray := prog_9_method_15_code
def y_Mod_push : MethodName := ⟨"GasLedgerModel", "push", "(I)V"⟩
abbrev rt_Mod_push : Option FieldType := (Option.none : Option FieldType)
theorem cd_Mod_push : Cond.code y_Mod_push b_Mod_push 2 rt_Mod_push ∈ cx_tb := gx_tb (c := (Jvm.Cond.code ({ cls := "GasLedgerModel", name := "push", desc := "(I)V" } : Jvm.MethodName) prog_9_method_15_code (2 : Nat) (Option.none : Option Jvm.ClassFile.FieldType))) 796 (by decide +kernel) (by decide +kernel)
abbrev w_Mod_push : List Cond := Cond.code y_Mod_push b_Mod_push 2 rt_Mod_push :: cx_tb
abbrev b_Mod_pop : ByteArray := prog_9_method_16_code
def y_Mod_pop : MethodName := ⟨"GasLedgerModel", "pop", "()I"⟩
abbrev rt_Mod_pop : Option FieldType := (Option.some FieldType.int)
theorem cd_Mod_pop : Cond.code y_Mod_pop b_Mod_pop 1 rt_Mod_pop ∈ cx_tb := gx_tb (c := (Jvm.Cond.code ({ cls := "GasLedgerModel", name := "pop", desc := "()I" } : Jvm.MethodName) prog_9_method_16_code (1 : Nat) (Option.some Jvm.ClassFile.FieldType.int))) 822 (by decide +kernel) (by decide +kernel)
abbrev w_Mod_pop : List Cond := Cond.code y_Mod_pop b_Mod_pop 1 rt_Mod_pop :: cx_tb
abbrev b_Mod_peek : ByteArray := prog_9_method_17_code
def y_Mod_peek : MethodName := ⟨"GasLedgerModel", "peek", "(I)I"⟩
abbrev rt_Mod_peek : Option FieldType := (Option.some FieldType.int)
theorem cd_Mod_peek : Cond.code y_Mod_peek b_Mod_peek 2 rt_Mod_peek ∈ cx_tb := gx_tb (c := (Jvm.Cond.code ({ cls := "GasLedgerModel", name := "peek", desc := "(I)I" } : Jvm.MethodName) prog_9_method_17_code (2 : Nat) (Option.some Jvm.ClassFile.FieldType.int))) 810 (by decide +kernel) (by decide +kernel)
abbrev w_Mod_peek : List Cond := Cond.code y_Mod_peek b_Mod_peek 2 rt_Mod_peek :: cx_tb
abbrev b_Mod_leave : ByteArray := prog_9_method_18_code
def y_Mod_leave : MethodName := ⟨"GasLedgerModel", "leave", "(ZII)V"⟩
abbrev rt_Mod_leave : Option FieldType := (Option.none : Option FieldType)
theorem cd_Mod_leave : Cond.code y_Mod_leave b_Mod_leave 5 rt_Mod_leave ∈ cx_tb := gx_tb (c := (Jvm.Cond.code ({ cls := "GasLedgerModel", name := "leave", desc := "(ZII)V" } : Jvm.MethodName) prog_9_method_18_code (5 : Nat) (Option.none : Option Jvm.ClassFile.FieldType))) 792 (by decide +kernel) (by decide +kernel)
abbrev w_Mod_leave : List Cond := Cond.code y_Mod_leave b_Mod_leave 5 rt_Mod_leave :: cx_tb
abbrev b_Mod_pops : ByteArray := prog_9_method_19_code
def y_Mod_pops : MethodName := ⟨"GasLedgerModel", "pops", "(I)I"⟩
abbrev rt_Mod_pops : Option FieldType := (Option.some FieldType.int)
theorem cd_Mod_pops : Cond.code y_Mod_pops b_Mod_pops 1 rt_Mod_pops ∈ cx_tb := gx_tb (c := (Jvm.Cond.code ({ cls := "GasLedgerModel", name := "pops", desc := "(I)I" } : Jvm.MethodName) prog_9_method_19_code (1 : Nat) (Option.some Jvm.ClassFile.FieldType.int))) 799 (by decide +kernel) (by decide +kernel)
abbrev w_Mod_pops : List Cond := Cond.code y_Mod_pops b_Mod_pops 1 rt_Mod_pops :: cx_tb
abbrev b_Mod_pushes : ByteArray := prog_9_method_20_code
def y_Mod_pushes : MethodName := ⟨"GasLedgerModel", "pushes", "(I)I"⟩
abbrev rt_Mod_pushes : Option FieldType := (Option.some FieldType.int)
theorem cd_Mod_pushes : Cond.code y_Mod_pushes b_Mod_pushes 1 rt_Mod_pushes ∈ cx_tb := gx_tb (c := (Jvm.Cond.code ({ cls := "GasLedgerModel", name := "pushes", desc := "(I)I" } : Jvm.MethodName) prog_9_method_20_code (1 : Nat) (Option.some Jvm.ClassFile.FieldType.int))) 802 (by decide +kernel) (by decide +kernel)
abbrev w_Mod_pushes : List Cond := Cond.code y_Mod_pushes b_Mod_pushes 1 rt_Mod_pushes :: cx_tb
abbrev b_Mod_cost : ByteArray := prog_9_method_21_code
def y_Mod_cost : MethodName := ⟨"GasLedgerModel", "cost", "(I)I"⟩
abbrev rt_Mod_cost : Option FieldType := (Option.some FieldType.int)
theorem cd_Mod_cost : Cond.code y_Mod_cost b_Mod_cost 3 rt_Mod_cost ∈ cx_tb := gx_tb (c := (Jvm.Cond.code ({ cls := "GasLedgerModel", name := "cost", desc := "(I)I" } : Jvm.MethodName) prog_9_method_21_code (3 : Nat) (Option.some Jvm.ClassFile.FieldType.int))) 806 (by decide +kernel) (by decide +kernel)
abbrev w_Mod_cost : List Cond := Cond.code y_Mod_cost b_Mod_cost 3 rt_Mod_cost :: cx_tb
abbrev b_Mod_fails : ByteArray := prog_9_method_22_code
def y_Mod_fails : MethodName := ⟨"GasLedgerModel", "fails", "(II)Z"⟩
abbrev rt_Mod_fails : Option FieldType := (Option.some FieldType.boolean)
theorem cd_Mod_fails : Cond.code y_Mod_fails b_Mod_fails 6 rt_Mod_fails ∈ cx_tb := gx_tb (c := (Jvm.Cond.code ({ cls := "GasLedgerModel", name := "fails", desc := "(II)Z" } : Jvm.MethodName) prog_9_method_22_code (6 : Nat) (Option.some Jvm.ClassFile.FieldType.boolean))) 814 (by decide +kernel) (by decide +kernel)
abbrev w_Mod_fails : List Cond := Cond.code y_Mod_fails b_Mod_fails 6 rt_Mod_fails :: cx_tb
abbrev b_Mod_step : ByteArray := prog_9_method_23_code
def y_Mod_step : MethodName := ⟨"GasLedgerModel", "step", "()V"⟩
abbrev rt_Mod_step : Option FieldType := (Option.none : Option FieldType)
theorem cd_Mod_step : Cond.code y_Mod_step b_Mod_step 7 rt_Mod_step ∈ cx_tb := gx_tb (c := (Jvm.Cond.code ({ cls := "GasLedgerModel", name := "step", desc := "()V" } : Jvm.MethodName) prog_9_method_23_code (7 : Nat) (Option.none : Option Jvm.ClassFile.FieldType))) 788 (by decide +kernel) (by decide +kernel)
abbrev w_Mod_step : List Cond := Cond.code y_Mod_step b_Mod_step 7 rt_Mod_step :: cx_tb
abbrev b_Mod_shuffle : ByteArray := prog_9_method_24_code
def y_Mod_shuffle : MethodName := ⟨"GasLedgerModel", "shuffle", "(II)V"⟩
abbrev rt_Mod_shuffle : Option FieldType := (Option.none : Option FieldType)
theorem cd_Mod_shuffle : Cond.code y_Mod_shuffle b_Mod_shuffle 5 rt_Mod_shuffle ∈ cx_tb := gx_tb (c := (Jvm.Cond.code ({ cls := "GasLedgerModel", name := "shuffle", desc := "(II)V" } : Jvm.MethodName) prog_9_method_24_code (5 : Nat) (Option.none : Option Jvm.ClassFile.FieldType))) 818 (by decide +kernel) (by decide +kernel)
abbrev w_Mod_shuffle : List Cond := Cond.code y_Mod_shuffle b_Mod_shuffle 5 rt_Mod_shuffle :: cx_tb
abbrev b_Mod_reckon : ByteArray := prog_9_method_25_code
def y_Mod_reckon : MethodName := ⟨"GasLedgerModel", "reckon", "(I)V"⟩
abbrev rt_Mod_reckon : Option FieldType := (Option.none : Option FieldType)
theorem cd_Mod_reckon : Cond.code y_Mod_reckon b_Mod_reckon 4 rt_Mod_reckon ∈ cx_tb := gx_tb (c := (Jvm.Cond.code ({ cls := "GasLedgerModel", name := "reckon", desc := "(I)V" } : Jvm.MethodName) prog_9_method_25_code (4 : Nat) (Option.none : Option Jvm.ClassFile.FieldType))) 826 (by decide +kernel) (by decide +kernel)
abbrev w_Mod_reckon : List Cond := Cond.code y_Mod_reckon b_Mod_reckon 4 rt_Mod_reckon :: cx_tb
abbrev b_Mod_hold : ByteArray := prog_9_method_26_code
def y_Mod_hold : MethodName := ⟨"GasLedgerModel", "hold", "(I)V"⟩
abbrev rt_Mod_hold : Option FieldType := (Option.none : Option FieldType)
theorem cd_Mod_hold : Cond.code y_Mod_hold b_Mod_hold 6 rt_Mod_hold ∈ cx_tb := gx_tb (c := (Jvm.Cond.code ({ cls := "GasLedgerModel", name := "hold", desc := "(I)V" } : Jvm.MethodName) prog_9_method_26_code (6 : Nat) (Option.none : Option Jvm.ClassFile.FieldType))) 830 (by decide +kernel) (by decide +kernel)
abbrev w_Mod_hold : List Cond := Cond.code y_Mod_hold b_Mod_hold 6 rt_Mod_hold :: cx_tb
abbrev b_Mod_act : ByteArray := prog_9_method_27_code
def y_Mod_act : MethodName := ⟨"GasLedgerModel", "act", "(I)V"⟩
abbrev rt_Mod_act : Option FieldType := (Option.none : Option FieldType)
theorem cd_Mod_act : Cond.code y_Mod_act b_Mod_act 4 rt_Mod_act ∈ cx_tb := gx_tb (c := (Jvm.Cond.code ({ cls := "GasLedgerModel", name := "act", desc := "(I)V" } : Jvm.MethodName) prog_9_method_27_code (4 : Nat) (Option.none : Option Jvm.ClassFile.FieldType))) 834 (by decide +kernel) (by decide +kernel)
abbrev w_Mod_act : List Cond := Cond.code y_Mod_act b_Mod_act 4 rt_Mod_act :: cx_tb
abbrev b_Mod_call : ByteArray := prog_9_method_28_code
def y_Mod_call : MethodName := ⟨"GasLedgerModel", "call", "(Z)V"⟩
abbrev rt_Mod_call : Option FieldType := (Option.none : Option FieldType)
theorem cd_Mod_call : Cond.code y_Mod_call b_Mod_call 8 rt_Mod_call ∈ cx_tb := gx_tb (c := (Jvm.Cond.code ({ cls := "GasLedgerModel", name := "call", desc := "(Z)V" } : Jvm.MethodName) prog_9_method_28_code (8 : Nat) (Option.none : Option Jvm.ClassFile.FieldType))) 838 (by decide +kernel) (by decide +kernel)
abbrev w_Mod_call : List Cond := Cond.code y_Mod_call b_Mod_call 8 rt_Mod_call :: cx_tb
abbrev b_Mod_create : ByteArray := prog_9_method_29_code
def y_Mod_create : MethodName := ⟨"GasLedgerModel", "create", "()V"⟩
abbrev rt_Mod_create : Option FieldType := (Option.none : Option FieldType)
theorem cd_Mod_create : Cond.code y_Mod_create b_Mod_create 7 rt_Mod_create ∈ cx_tb := gx_tb (c := (Jvm.Cond.code ({ cls := "GasLedgerModel", name := "create", desc := "()V" } : Jvm.MethodName) prog_9_method_29_code (7 : Nat) (Option.none : Option Jvm.ClassFile.FieldType))) 842 (by decide +kernel) (by decide +kernel)
abbrev w_Mod_create : List Cond := Cond.code y_Mod_create b_Mod_create 7 rt_Mod_create :: cx_tb
abbrev b_Mod_terms : ByteArray := prog_9_method_30_code
def y_Mod_terms : MethodName := ⟨"GasLedgerModel", "terms", "(III)V"⟩
abbrev rt_Mod_terms : Option FieldType := (Option.none : Option FieldType)
theorem cd_Mod_terms : Cond.code y_Mod_terms b_Mod_terms 4 rt_Mod_terms ∈ cx_tb := gx_tb (c := (Jvm.Cond.code ({ cls := "GasLedgerModel", name := "terms", desc := "(III)V" } : Jvm.MethodName) prog_9_method_30_code (4 : Nat) (Option.none : Option Jvm.ClassFile.FieldType))) 767 (by decide +kernel) (by decide +kernel)
abbrev w_Mod_terms : List Cond := Cond.code y_Mod_terms b_Mod_terms 4 rt_Mod_terms :: cx_tb
abbrev b_Mod_send : ByteArray := prog_9_method_31_code
def y_Mod_send : MethodName := ⟨"GasLedgerModel", "send", "(IIII)I"⟩
abbrev rt_Mod_send : Option FieldType := (Option.some FieldType.int)
theorem cd_Mod_send : Cond.code y_Mod_send b_Mod_send 5 rt_Mod_send ∈ cx_tb := gx_tb (c := (Jvm.Cond.code ({ cls := "GasLedgerModel", name := "send", desc := "(IIII)I" } : Jvm.MethodName) prog_9_method_31_code (5 : Nat) (Option.some Jvm.ClassFile.FieldType.int))) 771 (by decide +kernel) (by decide +kernel)
abbrev w_Mod_send : List Cond := Cond.code y_Mod_send b_Mod_send 5 rt_Mod_send :: cx_tb
abbrev b_Mod_pay : ByteArray := prog_9_method_32_code
def y_Mod_pay : MethodName := ⟨"GasLedgerModel", "pay", "(IIII)I"⟩
abbrev rt_Mod_pay : Option FieldType := (Option.some FieldType.int)
theorem cd_Mod_pay : Cond.code y_Mod_pay b_Mod_pay 8 rt_Mod_pay ∈ cx_tb := gx_tb (c := (Jvm.Cond.code ({ cls := "GasLedgerModel", name := "pay", desc := "(IIII)I" } : Jvm.MethodName) prog_9_method_32_code (8 : Nat) (Option.some Jvm.ClassFile.FieldType.int))) 850 (by decide +kernel) (by decide +kernel)
abbrev w_Mod_pay : List Cond := Cond.code y_Mod_pay b_Mod_pay 8 rt_Mod_pay :: cx_tb
abbrev b_Mod_transact : ByteArray := prog_9_method_33_code
def y_Mod_transact : MethodName := ⟨"GasLedgerModel", "transact", "(IIIIIII)I"⟩
abbrev rt_Mod_transact : Option FieldType := (Option.some FieldType.int)
theorem cd_Mod_transact : Cond.code y_Mod_transact b_Mod_transact 11 rt_Mod_transact ∈ cx_tb := gx_tb (c := (Jvm.Cond.code ({ cls := "GasLedgerModel", name := "transact", desc := "(IIIIIII)I" } : Jvm.MethodName) prog_9_method_33_code (11 : Nat) (Option.some Jvm.ClassFile.FieldType.int))) 775 (by decide +kernel) (by decide +kernel)
abbrev w_Mod_transact : List Cond := Cond.code y_Mod_transact b_Mod_transact 11 rt_Mod_transact :: cx_tb
abbrev b_Mod_wipe : ByteArray := prog_9_method_34_code
def y_Mod_wipe : MethodName := ⟨"GasLedgerModel", "wipe", "(I)V"⟩
abbrev rt_Mod_wipe : Option FieldType := (Option.none : Option FieldType)
theorem cd_Mod_wipe : Cond.code y_Mod_wipe b_Mod_wipe 3 rt_Mod_wipe ∈ cx_tb := gx_tb (c := (Jvm.Cond.code ({ cls := "GasLedgerModel", name := "wipe", desc := "(I)V" } : Jvm.MethodName) prog_9_method_34_code (3 : Nat) (Option.none : Option Jvm.ClassFile.FieldType))) 846 (by decide +kernel) (by decide +kernel)
abbrev w_Mod_wipe : List Cond := Cond.code y_Mod_wipe b_Mod_wipe 3 rt_Mod_wipe :: cx_tb
abbrev b_Mod_begin : ByteArray := prog_9_method_35_code
def y_Mod_begin : MethodName := ⟨"GasLedgerModel", "begin", "(II)Z"⟩
abbrev rt_Mod_begin : Option FieldType := (Option.some FieldType.boolean)
theorem cd_Mod_begin : Cond.code y_Mod_begin b_Mod_begin 4 rt_Mod_begin ∈ cx_tb := gx_tb (c := (Jvm.Cond.code ({ cls := "GasLedgerModel", name := "begin", desc := "(II)Z" } : Jvm.MethodName) prog_9_method_35_code (4 : Nat) (Option.some Jvm.ClassFile.FieldType.boolean))) 855 (by decide +kernel) (by decide +kernel)
abbrev w_Mod_begin : List Cond := Cond.code y_Mod_begin b_Mod_begin 4 rt_Mod_begin :: cx_tb
abbrev b_Mod_seal : ByteArray := prog_9_method_36_code
def y_Mod_seal : MethodName := ⟨"GasLedgerModel", "seal", "(I)I"⟩
abbrev rt_Mod_seal : Option FieldType := (Option.some FieldType.int)
theorem cd_Mod_seal : Cond.code y_Mod_seal b_Mod_seal 3 rt_Mod_seal ∈ cx_tb := gx_tb (c := (Jvm.Cond.code ({ cls := "GasLedgerModel", name := "seal", desc := "(I)I" } : Jvm.MethodName) prog_9_method_36_code (3 : Nat) (Option.some Jvm.ClassFile.FieldType.int))) 859 (by decide +kernel) (by decide +kernel)
abbrev w_Mod_seal : List Cond := Cond.code y_Mod_seal b_Mod_seal 3 rt_Mod_seal :: cx_tb
abbrev b_Mod_look : ByteArray := prog_9_method_37_code
def y_Mod_look : MethodName := ⟨"GasLedgerModel", "look", "(II)I"⟩
abbrev rt_Mod_look : Option FieldType := (Option.some FieldType.int)
theorem cd_Mod_look : Cond.code y_Mod_look b_Mod_look 3 rt_Mod_look ∈ cx_tb := gx_tb (c := (Jvm.Cond.code ({ cls := "GasLedgerModel", name := "look", desc := "(II)I" } : Jvm.MethodName) prog_9_method_37_code (3 : Nat) (Option.some Jvm.ClassFile.FieldType.int))) 863 (by decide +kernel) (by decide +kernel)
abbrev w_Mod_look : List Cond := Cond.code y_Mod_look b_Mod_look 3 rt_Mod_look :: cx_tb
abbrev b_Mod_slot : ByteArray := prog_9_method_38_code
def y_Mod_slot : MethodName := ⟨"GasLedgerModel", "slot", "(II)I"⟩
abbrev rt_Mod_slot : Option FieldType := (Option.some FieldType.int)
theorem cd_Mod_slot : Cond.code y_Mod_slot b_Mod_slot 3 rt_Mod_slot ∈ cx_tb := gx_tb (c := (Jvm.Cond.code ({ cls := "GasLedgerModel", name := "slot", desc := "(II)I" } : Jvm.MethodName) prog_9_method_38_code (3 : Nat) (Option.some Jvm.ClassFile.FieldType.int))) 867 (by decide +kernel) (by decide +kernel)
abbrev w_Mod_slot : List Cond := Cond.code y_Mod_slot b_Mod_slot 3 rt_Mod_slot :: cx_tb
abbrev b_Mod_word : ByteArray := prog_9_method_39_code
def y_Mod_word : MethodName := ⟨"GasLedgerModel", "word", "(II)I"⟩
abbrev rt_Mod_word : Option FieldType := (Option.some FieldType.int)
theorem cd_Mod_word : Cond.code y_Mod_word b_Mod_word 3 rt_Mod_word ∈ cx_tb := gx_tb (c := (Jvm.Cond.code ({ cls := "GasLedgerModel", name := "word", desc := "(II)I" } : Jvm.MethodName) prog_9_method_39_code (3 : Nat) (Option.some Jvm.ClassFile.FieldType.int))) 871 (by decide +kernel) (by decide +kernel)
abbrev w_Mod_word : List Cond := Cond.code y_Mod_word b_Mod_word 3 rt_Mod_word :: cx_tb
abbrev b_Mod_bloom : ByteArray := prog_9_method_40_code
def y_Mod_bloom : MethodName := ⟨"GasLedgerModel", "bloom", "()I"⟩
abbrev rt_Mod_bloom : Option FieldType := (Option.some FieldType.int)
theorem cd_Mod_bloom : Cond.code y_Mod_bloom b_Mod_bloom 4 rt_Mod_bloom ∈ cx_tb := gx_tb (c := (Jvm.Cond.code ({ cls := "GasLedgerModel", name := "bloom", desc := "()I" } : Jvm.MethodName) prog_9_method_40_code (4 : Nat) (Option.some Jvm.ClassFile.FieldType.int))) 879 (by decide +kernel) (by decide +kernel)
abbrev w_Mod_bloom : List Cond := Cond.code y_Mod_bloom b_Mod_bloom 4 rt_Mod_bloom :: cx_tb
abbrev b_Mod_block : ByteArray := prog_9_method_41_code
def y_Mod_block : MethodName := ⟨"GasLedgerModel", "block", "(I)I"⟩
abbrev rt_Mod_block : Option FieldType := (Option.some FieldType.int)
theorem cd_Mod_block : Cond.code y_Mod_block b_Mod_block 2 rt_Mod_block ∈ cx_tb := gx_tb (c := (Jvm.Cond.code ({ cls := "GasLedgerModel", name := "block", desc := "(I)I" } : Jvm.MethodName) prog_9_method_41_code (2 : Nat) (Option.some Jvm.ClassFile.FieldType.int))) 875 (by decide +kernel) (by decide +kernel)
abbrev w_Mod_block : List Cond := Cond.code y_Mod_block b_Mod_block 2 rt_Mod_block :: cx_tb
abbrev b_Mod_receipt : ByteArray := prog_9_method_42_code
def y_Mod_receipt : MethodName := ⟨"GasLedgerModel", "receipt", "(II)I"⟩
abbrev rt_Mod_receipt : Option FieldType := (Option.some FieldType.int)
theorem cd_Mod_receipt : Cond.code y_Mod_receipt b_Mod_receipt 3 rt_Mod_receipt ∈ cx_tb := gx_tb (c := (Jvm.Cond.code ({ cls := "GasLedgerModel", name := "receipt", desc := "(II)I" } : Jvm.MethodName) prog_9_method_42_code (3 : Nat) (Option.some Jvm.ClassFile.FieldType.int))) 883 (by decide +kernel) (by decide +kernel)
abbrev w_Mod_receipt : List Cond := Cond.code y_Mod_receipt b_Mod_receipt 3 rt_Mod_receipt :: cx_tb
abbrev b_Mod_log : ByteArray := prog_9_method_43_code
def y_Mod_log : MethodName := ⟨"GasLedgerModel", "log", "(II)I"⟩
abbrev rt_Mod_log : Option FieldType := (Option.some FieldType.int)
theorem cd_Mod_log : Cond.code y_Mod_log b_Mod_log 3 rt_Mod_log ∈ cx_tb := gx_tb (c := (Jvm.Cond.code ({ cls := "GasLedgerModel", name := "log", desc := "(II)I" } : Jvm.MethodName) prog_9_method_43_code (3 : Nat) (Option.some Jvm.ClassFile.FieldType.int))) 887 (by decide +kernel) (by decide +kernel)
abbrev w_Mod_log : List Cond := Cond.code y_Mod_log b_Mod_log 3 rt_Mod_log :: cx_tb
abbrev b_Mod_total : ByteArray := prog_9_method_44_code
def y_Mod_total : MethodName := ⟨"GasLedgerModel", "total", "()J"⟩
abbrev rt_Mod_total : Option FieldType := (Option.some FieldType.long)
theorem cd_Mod_total : Cond.code y_Mod_total b_Mod_total 4 rt_Mod_total ∈ cx_tb := gx_tb (c := (Jvm.Cond.code ({ cls := "GasLedgerModel", name := "total", desc := "()J" } : Jvm.MethodName) prog_9_method_44_code (4 : Nat) (Option.some Jvm.ClassFile.FieldType.long))) 891 (by decide +kernel) (by decide +kernel)
abbrev w_Mod_total : List Cond := Cond.code y_Mod_total b_Mod_total 4 rt_Mod_total :: cx_tb
abbrev b_Acc_init : ByteArray := prog_2_method_1_code
def y_Acc_init : MethodName := ⟨"GasLedger$Accounts", "<init>", "()V"⟩
abbrev rt_Acc_init : Option FieldType := (Option.none : Option FieldType)
theorem cd_Acc_init : Cond.code y_Acc_init b_Acc_init 1 rt_Acc_init ∈ cx_tb := gx_tb (c := (Jvm.Cond.code ({ cls := "GasLedger$Accounts", name := "<init>", desc := "()V" } : Jvm.MethodName) prog_2_method_1_code (1 : Nat) (Option.none : Option Jvm.ClassFile.FieldType))) 72 (by decide +kernel) (by decide +kernel)
abbrev w_Acc_init : List Cond := Cond.code y_Acc_init b_Acc_init 1 rt_Acc_init :: cx_tb
abbrev b_Acc_copyFrom : ByteArray := prog_2_method_2_code
def y_Acc_copyFrom : MethodName := ⟨"GasLedger$Accounts", "copyFrom", "(LGasLedger$Accounts;)V"⟩
abbrev rt_Acc_copyFrom : Option FieldType := (Option.none : Option FieldType)
theorem cd_Acc_copyFrom : Cond.code y_Acc_copyFrom b_Acc_copyFrom 2 rt_Acc_copyFrom ∈ cx_tb := gx_tb (c := (Jvm.Cond.code ({ cls := "GasLedger$Accounts", name := "copyFrom", desc := "(LGasLedger$Accounts;)V" } : Jvm.MethodName) prog_2_method_2_code (2 : Nat) (Option.none : Option Jvm.ClassFile.FieldType))) 325 (by decide +kernel) (by decide +kernel)
abbrev w_Acc_copyFrom : List Cond := Cond.code y_Acc_copyFrom b_Acc_copyFrom 2 rt_Acc_copyFrom :: cx_tb
abbrev b_Acc_append : ByteArray := prog_2_method_3_code
def y_Acc_append : MethodName := ⟨"GasLedger$Accounts", "append", "(II)Z"⟩
abbrev rt_Acc_append : Option FieldType := (Option.some FieldType.boolean)
theorem cd_Acc_append : Cond.code y_Acc_append b_Acc_append 3 rt_Acc_append ∈ cx_tb := gx_tb (c := (Jvm.Cond.code ({ cls := "GasLedger$Accounts", name := "append", desc := "(II)Z" } : Jvm.MethodName) prog_2_method_3_code (3 : Nat) (Option.some Jvm.ClassFile.FieldType.boolean))) 306 (by decide +kernel) (by decide +kernel)
abbrev w_Acc_append : List Cond := Cond.code y_Acc_append b_Acc_append 3 rt_Acc_append :: cx_tb
abbrev b_Acc_wordOf : ByteArray := prog_2_method_4_code
def y_Acc_wordOf : MethodName := ⟨"GasLedger$Accounts", "wordOf", "(II)I"⟩
abbrev rt_Acc_wordOf : Option FieldType := (Option.some FieldType.int)
theorem cd_Acc_wordOf : Cond.code y_Acc_wordOf b_Acc_wordOf 3 rt_Acc_wordOf ∈ cx_tb := gx_tb (c := (Jvm.Cond.code ({ cls := "GasLedger$Accounts", name := "wordOf", desc := "(II)I" } : Jvm.MethodName) prog_2_method_4_code (3 : Nat) (Option.some Jvm.ClassFile.FieldType.int))) 366 (by decide +kernel) (by decide +kernel)
abbrev w_Acc_wordOf : List Cond := Cond.code y_Acc_wordOf b_Acc_wordOf 3 rt_Acc_wordOf :: cx_tb
abbrev b_Acc_slotOf : ByteArray := prog_2_method_5_code
def y_Acc_slotOf : MethodName := ⟨"GasLedger$Accounts", "slotOf", "(II)I"⟩
abbrev rt_Acc_slotOf : Option FieldType := (Option.some FieldType.int)
theorem cd_Acc_slotOf : Cond.code y_Acc_slotOf b_Acc_slotOf 3 rt_Acc_slotOf ∈ cx_tb := gx_tb (c := (Jvm.Cond.code ({ cls := "GasLedger$Accounts", name := "slotOf", desc := "(II)I" } : Jvm.MethodName) prog_2_method_5_code (3 : Nat) (Option.some Jvm.ClassFile.FieldType.int))) 381 (by decide +kernel) (by decide +kernel)
abbrev w_Acc_slotOf : List Cond := Cond.code y_Acc_slotOf b_Acc_slotOf 3 rt_Acc_slotOf :: cx_tb
abbrev b_Acc_balanceOf : ByteArray := prog_2_method_6_code
def y_Acc_balanceOf : MethodName := ⟨"GasLedger$Accounts", "balanceOf", "(I)I"⟩
abbrev rt_Acc_balanceOf : Option FieldType := (Option.some FieldType.int)
theorem cd_Acc_balanceOf : Cond.code y_Acc_balanceOf b_Acc_balanceOf 2 rt_Acc_balanceOf ∈ cx_tb := gx_tb (c := (Jvm.Cond.code ({ cls := "GasLedger$Accounts", name := "balanceOf", desc := "(I)I" } : Jvm.MethodName) prog_2_method_6_code (2 : Nat) (Option.some Jvm.ClassFile.FieldType.int))) 488 (by decide +kernel) (by decide +kernel)
abbrev w_Acc_balanceOf : List Cond := Cond.code y_Acc_balanceOf b_Acc_balanceOf 2 rt_Acc_balanceOf :: cx_tb
abbrev b_Acc_give : ByteArray := prog_2_method_7_code
def y_Acc_give : MethodName := ⟨"GasLedger$Accounts", "give", "(III)V"⟩
abbrev rt_Acc_give : Option FieldType := (Option.none : Option FieldType)
theorem cd_Acc_give : Cond.code y_Acc_give b_Acc_give 4 rt_Acc_give ∈ cx_tb := gx_tb (c := (Jvm.Cond.code ({ cls := "GasLedger$Accounts", name := "give", desc := "(III)V" } : Jvm.MethodName) prog_2_method_7_code (4 : Nat) (Option.none : Option Jvm.ClassFile.FieldType))) 357 (by decide +kernel) (by decide +kernel)
abbrev w_Acc_give : List Cond := Cond.code y_Acc_give b_Acc_give 4 rt_Acc_give :: cx_tb
abbrev b_Acc_clear : ByteArray := prog_2_method_8_code
def y_Acc_clear : MethodName := ⟨"GasLedger$Accounts", "clear", "(I)V"⟩
abbrev rt_Acc_clear : Option FieldType := (Option.none : Option FieldType)
theorem cd_Acc_clear : Cond.code y_Acc_clear b_Acc_clear 3 rt_Acc_clear ∈ cx_tb := gx_tb (c := (Jvm.Cond.code ({ cls := "GasLedger$Accounts", name := "clear", desc := "(I)V" } : Jvm.MethodName) prog_2_method_8_code (3 : Nat) (Option.none : Option Jvm.ClassFile.FieldType))) 509 (by decide +kernel) (by decide +kernel)
abbrev w_Acc_clear : List Cond := Cond.code y_Acc_clear b_Acc_clear 3 rt_Acc_clear :: cx_tb
abbrev b_Acc_isEmpty : ByteArray := prog_2_method_9_code
def y_Acc_isEmpty : MethodName := ⟨"GasLedger$Accounts", "isEmpty", "(I)Z"⟩
abbrev rt_Acc_isEmpty : Option FieldType := (Option.some FieldType.boolean)
theorem cd_Acc_isEmpty : Cond.code y_Acc_isEmpty b_Acc_isEmpty 2 rt_Acc_isEmpty ∈ cx_tb := gx_tb (c := (Jvm.Cond.code ({ cls := "GasLedger$Accounts", name := "isEmpty", desc := "(I)Z" } : Jvm.MethodName) prog_2_method_9_code (2 : Nat) (Option.some Jvm.ClassFile.FieldType.boolean))) 463 (by decide +kernel) (by decide +kernel)
abbrev w_Acc_isEmpty : List Cond := Cond.code y_Acc_isEmpty b_Acc_isEmpty 2 rt_Acc_isEmpty :: cx_tb
abbrev b_Acc_leastEmpty : ByteArray := prog_2_method_10_code
def y_Acc_leastEmpty : MethodName := ⟨"GasLedger$Accounts", "leastEmpty", "()I"⟩
abbrev rt_Acc_leastEmpty : Option FieldType := (Option.some FieldType.int)
theorem cd_Acc_leastEmpty : Cond.code y_Acc_leastEmpty b_Acc_leastEmpty 2 rt_Acc_leastEmpty ∈ cx_tb := gx_tb (c := (Jvm.Cond.code ({ cls := "GasLedger$Accounts", name := "leastEmpty", desc := "()I" } : Jvm.MethodName) prog_2_method_10_code (2 : Nat) (Option.some Jvm.ClassFile.FieldType.int))) 459 (by decide +kernel) (by decide +kernel)
abbrev w_Acc_leastEmpty : List Cond := Cond.code y_Acc_leastEmpty b_Acc_leastEmpty 2 rt_Acc_leastEmpty :: cx_tb
abbrev b_Acc_filledSlots : ByteArray := prog_2_method_11_code
def y_Acc_filledSlots : MethodName := ⟨"GasLedger$Accounts", "filledSlots", "(I)I"⟩
abbrev rt_Acc_filledSlots : Option FieldType := (Option.some FieldType.int)
theorem cd_Acc_filledSlots : Cond.code y_Acc_filledSlots b_Acc_filledSlots 4 rt_Acc_filledSlots ∈ cx_tb := gx_tb (c := (Jvm.Cond.code ({ cls := "GasLedger$Accounts", name := "filledSlots", desc := "(I)I" } : Jvm.MethodName) prog_2_method_11_code (4 : Nat) (Option.some Jvm.ClassFile.FieldType.int))) 467 (by decide +kernel) (by decide +kernel)
abbrev w_Acc_filledSlots : List Cond := Cond.code y_Acc_filledSlots b_Acc_filledSlots 4 rt_Acc_filledSlots :: cx_tb
abbrev b_Acc_slotsRoot : ByteArray := prog_2_method_12_code
def y_Acc_slotsRoot : MethodName := ⟨"GasLedger$Accounts", "slotsRoot", "(I)I"⟩
abbrev rt_Acc_slotsRoot : Option FieldType := (Option.some FieldType.int)
theorem cd_Acc_slotsRoot : Cond.code y_Acc_slotsRoot b_Acc_slotsRoot 2 rt_Acc_slotsRoot ∈ cx_tb := gx_tb (c := (Jvm.Cond.code ({ cls := "GasLedger$Accounts", name := "slotsRoot", desc := "(I)I" } : Jvm.MethodName) prog_2_method_12_code (2 : Nat) (Option.some Jvm.ClassFile.FieldType.int))) 534 (by decide +kernel) (by decide +kernel)
abbrev w_Acc_slotsRoot : List Cond := Cond.code y_Acc_slotsRoot b_Acc_slotsRoot 2 rt_Acc_slotsRoot :: cx_tb
abbrev b_Acc_codeNumber : ByteArray := prog_2_method_13_code
def y_Acc_codeNumber : MethodName := ⟨"GasLedger$Accounts", "codeNumber", "(I)I"⟩
abbrev rt_Acc_codeNumber : Option FieldType := (Option.some FieldType.int)
theorem cd_Acc_codeNumber : Cond.code y_Acc_codeNumber b_Acc_codeNumber 4 rt_Acc_codeNumber ∈ cx_tb := gx_tb (c := (Jvm.Cond.code ({ cls := "GasLedger$Accounts", name := "codeNumber", desc := "(I)I" } : Jvm.MethodName) prog_2_method_13_code (4 : Nat) (Option.some Jvm.ClassFile.FieldType.int))) 550 (by decide +kernel) (by decide +kernel)
abbrev w_Acc_codeNumber : List Cond := Cond.code y_Acc_codeNumber b_Acc_codeNumber 4 rt_Acc_codeNumber :: cx_tb
abbrev b_Acc_valueOf : ByteArray := prog_2_method_14_code
def y_Acc_valueOf : MethodName := ⟨"GasLedger$Accounts", "valueOf", "(I)I"⟩
abbrev rt_Acc_valueOf : Option FieldType := (Option.some FieldType.int)
theorem cd_Acc_valueOf : Cond.code y_Acc_valueOf b_Acc_valueOf 3 rt_Acc_valueOf ∈ cx_tb := gx_tb (c := (Jvm.Cond.code ({ cls := "GasLedger$Accounts", name := "valueOf", desc := "(I)I" } : Jvm.MethodName) prog_2_method_14_code (3 : Nat) (Option.some Jvm.ClassFile.FieldType.int))) 545 (by decide +kernel) (by decide +kernel)
abbrev w_Acc_valueOf : List Cond := Cond.code y_Acc_valueOf b_Acc_valueOf 3 rt_Acc_valueOf :: cx_tb
abbrev b_Acc_rootOfAll : ByteArray := prog_2_method_15_code
def y_Acc_rootOfAll : MethodName := ⟨"GasLedger$Accounts", "rootOfAll", "()I"⟩
abbrev rt_Acc_rootOfAll : Option FieldType := (Option.some FieldType.int)
theorem cd_Acc_rootOfAll : Cond.code y_Acc_rootOfAll b_Acc_rootOfAll 3 rt_Acc_rootOfAll ∈ cx_tb := gx_tb (c := (Jvm.Cond.code ({ cls := "GasLedger$Accounts", name := "rootOfAll", desc := "()I" } : Jvm.MethodName) prog_2_method_15_code (3 : Nat) (Option.some Jvm.ClassFile.FieldType.int))) 569 (by decide +kernel) (by decide +kernel)
abbrev w_Acc_rootOfAll : List Cond := Cond.code y_Acc_rootOfAll b_Acc_rootOfAll 3 rt_Acc_rootOfAll :: cx_tb
abbrev b_Com_mix : ByteArray := prog_3_method_2_code
def y_Com_mix : MethodName := ⟨"GasLedger$Commitment", "mix", "(II)I"⟩
abbrev rt_Com_mix : Option FieldType := (Option.some FieldType.int)
theorem cd_Com_mix : Cond.code y_Com_mix b_Com_mix 3 rt_Com_mix ∈ cx_tb := gx_tb (c := (Jvm.Cond.code ({ cls := "GasLedger$Commitment", name := "mix", desc := "(II)I" } : Jvm.MethodName) prog_3_method_2_code (3 : Nat) (Option.some Jvm.ClassFile.FieldType.int))) 475 (by decide +kernel) (by decide +kernel)
abbrev w_Com_mix : List Cond := Cond.code y_Com_mix b_Com_mix 3 rt_Com_mix :: cx_tb
abbrev b_Com_rootOfMap : ByteArray := prog_3_method_3_code
def y_Com_rootOfMap : MethodName := ⟨"GasLedger$Commitment", "rootOfMap", "([IIII)I"⟩
abbrev rt_Com_rootOfMap : Option FieldType := (Option.some FieldType.int)
theorem cd_Com_rootOfMap : Cond.code y_Com_rootOfMap b_Com_rootOfMap 4 rt_Com_rootOfMap ∈ cx_tb := gx_tb (c := (Jvm.Cond.code ({ cls := "GasLedger$Commitment", name := "rootOfMap", desc := "([IIII)I" } : Jvm.MethodName) prog_3_method_3_code (4 : Nat) (Option.some Jvm.ClassFile.FieldType.int))) 537 (by decide +kernel) (by decide +kernel)
abbrev w_Com_rootOfMap : List Cond := Cond.code y_Com_rootOfMap b_Com_rootOfMap 4 rt_Com_rootOfMap :: cx_tb
abbrev b_Com_rootOfPart : ByteArray := prog_3_method_4_code
def y_Com_rootOfPart : MethodName := ⟨"GasLedger$Commitment", "rootOfPart", "([IIIII)I"⟩
abbrev rt_Com_rootOfPart : Option FieldType := (Option.some FieldType.int)
theorem cd_Com_rootOfPart : Cond.code y_Com_rootOfPart b_Com_rootOfPart 10 rt_Com_rootOfPart ∈ cx_tb := gx_tb (c := (Jvm.Cond.code ({ cls := "GasLedger$Commitment", name := "rootOfPart", desc := "([IIIII)I" } : Jvm.MethodName) prog_3_method_4_code (10 : Nat) (Option.some Jvm.ClassFile.FieldType.int))) 540 (by decide +kernel) (by decide +kernel)
abbrev w_Com_rootOfPart : List Cond := Cond.code y_Com_rootOfPart b_Com_rootOfPart 10 rt_Com_rootOfPart :: cx_tb
abbrev b_Frm_init : ByteArray := prog_4_method_1_code
def y_Frm_init : MethodName := ⟨"GasLedger$Frame", "<init>", "()V"⟩
abbrev rt_Frm_init : Option FieldType := (Option.none : Option FieldType)
theorem cd_Frm_init : Cond.code y_Frm_init b_Frm_init 1 rt_Frm_init ∈ cx_tb := gx_tb (c := (Jvm.Cond.code ({ cls := "GasLedger$Frame", name := "<init>", desc := "()V" } : Jvm.MethodName) prog_4_method_1_code (1 : Nat) (Option.none : Option Jvm.ClassFile.FieldType))) 130 (by decide +kernel) (by decide +kernel)
abbrev w_Frm_init : List Cond := Cond.code y_Frm_init b_Frm_init 1 rt_Frm_init :: cx_tb
abbrev b_Frm_start : ByteArray := prog_4_method_2_code
def y_Frm_start : MethodName := ⟨"GasLedger$Frame", "start", "(IIIIII)V"⟩
abbrev rt_Frm_start : Option FieldType := (Option.none : Option FieldType)
theorem cd_Frm_start : Cond.code y_Frm_start b_Frm_start 7 rt_Frm_start ∈ cx_tb := gx_tb (c := (Jvm.Cond.code ({ cls := "GasLedger$Frame", name := "start", desc := "(IIIIII)V" } : Jvm.MethodName) prog_4_method_2_code (7 : Nat) (Option.none : Option Jvm.ClassFile.FieldType))) 352 (by decide +kernel) (by decide +kernel)
abbrev w_Frm_start : List Cond := Cond.code y_Frm_start b_Frm_start 7 rt_Frm_start :: cx_tb
abbrev b_Frm_end : ByteArray := prog_4_method_3_code
def y_Frm_end : MethodName := ⟨"GasLedger$Frame", "end", "(ZI)V"⟩
abbrev rt_Frm_end : Option FieldType := (Option.none : Option FieldType)
theorem cd_Frm_end : Cond.code y_Frm_end b_Frm_end 3 rt_Frm_end ∈ cx_tb := gx_tb (c := (Jvm.Cond.code ({ cls := "GasLedger$Frame", name := "end", desc := "(ZI)V" } : Jvm.MethodName) prog_4_method_3_code (3 : Nat) (Option.none : Option Jvm.ClassFile.FieldType))) 404 (by decide +kernel) (by decide +kernel)
abbrev w_Frm_end : List Cond := Cond.code y_Frm_end b_Frm_end 3 rt_Frm_end :: cx_tb
abbrev b_Frm_fail : ByteArray := prog_4_method_4_code
def y_Frm_fail : MethodName := ⟨"GasLedger$Frame", "fail", "()V"⟩
abbrev rt_Frm_fail : Option FieldType := (Option.none : Option FieldType)
theorem cd_Frm_fail : Cond.code y_Frm_fail b_Frm_fail 1 rt_Frm_fail ∈ cx_tb := gx_tb (c := (Jvm.Cond.code ({ cls := "GasLedger$Frame", name := "fail", desc := "()V" } : Jvm.MethodName) prog_4_method_4_code (1 : Nat) (Option.none : Option Jvm.ClassFile.FieldType))) 400 (by decide +kernel) (by decide +kernel)
abbrev w_Frm_fail : List Cond := Cond.code y_Frm_fail b_Frm_fail 1 rt_Frm_fail :: cx_tb
abbrev b_Frm_below : ByteArray := prog_4_method_5_code
def y_Frm_below : MethodName := ⟨"GasLedger$Frame", "below", "(I)I"⟩
abbrev rt_Frm_below : Option FieldType := (Option.some FieldType.int)
theorem cd_Frm_below : Cond.code y_Frm_below b_Frm_below 3 rt_Frm_below ∈ cx_tb := gx_tb (c := (Jvm.Cond.code ({ cls := "GasLedger$Frame", name := "below", desc := "(I)I" } : Jvm.MethodName) prog_4_method_5_code (3 : Nat) (Option.some Jvm.ClassFile.FieldType.int))) 377 (by decide +kernel) (by decide +kernel)
abbrev w_Frm_below : List Cond := Cond.code y_Frm_below b_Frm_below 3 rt_Frm_below :: cx_tb
abbrev b_Frm_push : ByteArray := prog_4_method_6_code
def y_Frm_push : MethodName := ⟨"GasLedger$Frame", "push", "(I)V"⟩
abbrev rt_Frm_push : Option FieldType := (Option.none : Option FieldType)
theorem cd_Frm_push : Cond.code y_Frm_push b_Frm_push 2 rt_Frm_push ∈ cx_tb := gx_tb (c := (Jvm.Cond.code ({ cls := "GasLedger$Frame", name := "push", desc := "(I)V" } : Jvm.MethodName) prog_4_method_6_code (2 : Nat) (Option.none : Option Jvm.ClassFile.FieldType))) 443 (by decide +kernel) (by decide +kernel)
abbrev w_Frm_push : List Cond := Cond.code y_Frm_push b_Frm_push 2 rt_Frm_push :: cx_tb
abbrev b_Frm_pop : ByteArray := prog_4_method_7_code
def y_Frm_pop : MethodName := ⟨"GasLedger$Frame", "pop", "()I"⟩
abbrev rt_Frm_pop : Option FieldType := (Option.some FieldType.int)
theorem cd_Frm_pop : Cond.code y_Frm_pop b_Frm_pop 1 rt_Frm_pop ∈ cx_tb := gx_tb (c := (Jvm.Cond.code ({ cls := "GasLedger$Frame", name := "pop", desc := "()I" } : Jvm.MethodName) prog_4_method_7_code (1 : Nat) (Option.some Jvm.ClassFile.FieldType.int))) 409 (by decide +kernel) (by decide +kernel)
abbrev w_Frm_pop : List Cond := Cond.code y_Frm_pop b_Frm_pop 1 rt_Frm_pop :: cx_tb
abbrev b_Frm_swap : ByteArray := prog_4_method_8_code
def y_Frm_swap : MethodName := ⟨"GasLedger$Frame", "swap", "(I)V"⟩
abbrev rt_Frm_swap : Option FieldType := (Option.none : Option FieldType)
theorem cd_Frm_swap : Cond.code y_Frm_swap b_Frm_swap 4 rt_Frm_swap ∈ cx_tb := gx_tb (c := (Jvm.Cond.code ({ cls := "GasLedger$Frame", name := "swap", desc := "(I)V" } : Jvm.MethodName) prog_4_method_8_code (4 : Nat) (Option.none : Option Jvm.ClassFile.FieldType))) 413 (by decide +kernel) (by decide +kernel)
abbrev w_Frm_swap : List Cond := Cond.code y_Frm_swap b_Frm_swap 4 rt_Frm_swap :: cx_tb
abbrev b_Log_init : ByteArray := prog_5_method_1_code
def y_Log_init : MethodName := ⟨"GasLedger$Logs", "<init>", "()V"⟩
abbrev rt_Log_init : Option FieldType := (Option.none : Option FieldType)
theorem cd_Log_init : Cond.code y_Log_init b_Log_init 1 rt_Log_init ∈ cx_tb := gx_tb (c := (Jvm.Cond.code ({ cls := "GasLedger$Logs", name := "<init>", desc := "()V" } : Jvm.MethodName) prog_5_method_1_code (1 : Nat) (Option.none : Option Jvm.ClassFile.FieldType))) 106 (by decide +kernel) (by decide +kernel)
abbrev w_Log_init : List Cond := Cond.code y_Log_init b_Log_init 1 rt_Log_init :: cx_tb
abbrev b_Log_add : ByteArray := prog_5_method_2_code
def y_Log_add : MethodName := ⟨"GasLedger$Logs", "add", "(II)V"⟩
abbrev rt_Log_add : Option FieldType := (Option.none : Option FieldType)
theorem cd_Log_add : Cond.code y_Log_add b_Log_add 3 rt_Log_add ∈ cx_tb := gx_tb (c := (Jvm.Cond.code ({ cls := "GasLedger$Logs", name := "add", desc := "(II)V" } : Jvm.MethodName) prog_5_method_2_code (3 : Nat) (Option.none : Option Jvm.ClassFile.FieldType))) 472 (by decide +kernel) (by decide +kernel)
abbrev w_Log_add : List Cond := Cond.code y_Log_add b_Log_add 3 rt_Log_add :: cx_tb
abbrev b_Log_cutBackTo : ByteArray := prog_5_method_3_code
def y_Log_cutBackTo : MethodName := ⟨"GasLedger$Logs", "cutBackTo", "(II)V"⟩
abbrev rt_Log_cutBackTo : Option FieldType := (Option.none : Option FieldType)
theorem cd_Log_cutBackTo : Cond.code y_Log_cutBackTo b_Log_cutBackTo 3 rt_Log_cutBackTo ∈ cx_tb := gx_tb (c := (Jvm.Cond.code ({ cls := "GasLedger$Logs", name := "cutBackTo", desc := "(II)V" } : Jvm.MethodName) prog_5_method_3_code (3 : Nat) (Option.none : Option Jvm.ClassFile.FieldType))) 321 (by decide +kernel) (by decide +kernel)
abbrev w_Log_cutBackTo : List Cond := Cond.code y_Log_cutBackTo b_Log_cutBackTo 3 rt_Log_cutBackTo :: cx_tb
abbrev b_Log_partOf : ByteArray := prog_5_method_4_code
def y_Log_partOf : MethodName := ⟨"GasLedger$Logs", "partOf", "(II)I"⟩
abbrev rt_Log_partOf : Option FieldType := (Option.some FieldType.int)
theorem cd_Log_partOf : Cond.code y_Log_partOf b_Log_partOf 3 rt_Log_partOf ∈ cx_tb := gx_tb (c := (Jvm.Cond.code ({ cls := "GasLedger$Logs", name := "partOf", desc := "(II)I" } : Jvm.MethodName) prog_5_method_4_code (3 : Nat) (Option.some Jvm.ClassFile.FieldType.int))) 590 (by decide +kernel) (by decide +kernel)
abbrev w_Log_partOf : List Cond := Cond.code y_Log_partOf b_Log_partOf 3 rt_Log_partOf :: cx_tb
abbrev b_Mac_init : ByteArray := prog_6_method_1_code
def y_Mac_init : MethodName := ⟨"GasLedger$Machine", "<init>", "()V"⟩
abbrev rt_Mac_init : Option FieldType := (Option.none : Option FieldType)
theorem cd_Mac_init : Cond.code y_Mac_init b_Mac_init 2 rt_Mac_init ∈ cx_tb := gx_tb (c := (Jvm.Cond.code ({ cls := "GasLedger$Machine", name := "<init>", desc := "()V" } : Jvm.MethodName) prog_6_method_1_code (2 : Nat) (Option.none : Option Jvm.ClassFile.FieldType))) 66 (by decide +kernel) (by decide +kernel)
abbrev w_Mac_init : List Cond := Cond.code y_Mac_init b_Mac_init 2 rt_Mac_init :: cx_tb
abbrev b_Mac_run : ByteArray := prog_6_method_2_code
def y_Mac_run : MethodName := ⟨"GasLedger$Machine", "run", "(IIIII)LGasLedger$Frame;"⟩
abbrev rt_Mac_run : Option FieldType := (Option.some (FieldType.object "GasLedger$Frame"))
theorem cd_Mac_run : Cond.code y_Mac_run b_Mac_run 8 rt_Mac_run ∈ cx_tb := gx_tb (c := (Jvm.Cond.code ({ cls := "GasLedger$Machine", name := "run", desc := "(IIIII)LGasLedger$Frame;" } : Jvm.MethodName) prog_6_method_2_code (8 : Nat) (Option.some (Jvm.ClassFile.FieldType.object "GasLedger$Frame")))) 344 (by decide +kernel) (by decide +kernel)
abbrev w_Mac_run : List Cond := Cond.code y_Mac_run b_Mac_run 8 rt_Mac_run :: cx_tb
abbrev b_Mac_removeGoers : ByteArray := prog_6_method_3_code
def y_Mac_removeGoers : MethodName := ⟨"GasLedger$Machine", "removeGoers", "()V"⟩
abbrev rt_Mac_removeGoers : Option FieldType := (Option.none : Option FieldType)
theorem cd_Mac_removeGoers : Cond.code y_Mac_removeGoers b_Mac_removeGoers 2 rt_Mac_removeGoers ∈ cx_tb := gx_tb (c := (Jvm.Cond.code ({ cls := "GasLedger$Machine", name := "removeGoers", desc := "()V" } : Jvm.MethodName) prog_6_method_3_code (2 : Nat) (Option.none : Option Jvm.ClassFile.FieldType))) 505 (by decide +kernel) (by decide +kernel)
abbrev w_Mac_removeGoers : List Cond := Cond.code y_Mac_removeGoers b_Mac_removeGoers 2 rt_Mac_removeGoers :: cx_tb
abbrev b_Mac_enter : ByteArray := prog_6_method_4_code
def y_Mac_enter : MethodName := ⟨"GasLedger$Machine", "enter", "(IIIIII)V"⟩
abbrev rt_Mac_enter : Option FieldType := (Option.none : Option FieldType)
theorem cd_Mac_enter : Cond.code y_Mac_enter b_Mac_enter 8 rt_Mac_enter ∈ cx_tb := gx_tb (c := (Jvm.Cond.code ({ cls := "GasLedger$Machine", name := "enter", desc := "(IIIIII)V" } : Jvm.MethodName) prog_6_method_4_code (8 : Nat) (Option.none : Option Jvm.ClassFile.FieldType))) 348 (by decide +kernel) (by decide +kernel)
abbrev w_Mac_enter : List Cond := Cond.code y_Mac_enter b_Mac_enter 8 rt_Mac_enter :: cx_tb
abbrev b_Mac_undo : ByteArray := prog_6_method_5_code
def y_Mac_undo : MethodName := ⟨"GasLedger$Machine", "undo", "(LGasLedger$Frame;)V"⟩
abbrev rt_Mac_undo : Option FieldType := (Option.none : Option FieldType)
theorem cd_Mac_undo : Cond.code y_Mac_undo b_Mac_undo 2 rt_Mac_undo ∈ cx_tb := gx_tb (c := (Jvm.Cond.code ({ cls := "GasLedger$Machine", name := "undo", desc := "(LGasLedger$Frame;)V" } : Jvm.MethodName) prog_6_method_5_code (2 : Nat) (Option.none : Option Jvm.ClassFile.FieldType))) 499 (by decide +kernel) (by decide +kernel)
abbrev w_Mac_undo : List Cond := Cond.code y_Mac_undo b_Mac_undo 2 rt_Mac_undo :: cx_tb
abbrev b_Mac_leave : ByteArray := prog_6_method_6_code
def y_Mac_leave : MethodName := ⟨"GasLedger$Machine", "leave", "(LGasLedger$Frame;)V"⟩
abbrev rt_Mac_leave : Option FieldType := (Option.none : Option FieldType)
theorem cd_Mac_leave : Cond.code y_Mac_leave b_Mac_leave 3 rt_Mac_leave ∈ cx_tb := gx_tb (c := (Jvm.Cond.code ({ cls := "GasLedger$Machine", name := "leave", desc := "(LGasLedger$Frame;)V" } : Jvm.MethodName) prog_6_method_6_code (3 : Nat) (Option.none : Option Jvm.ClassFile.FieldType))) 495 (by decide +kernel) (by decide +kernel)
abbrev w_Mac_leave : List Cond := Cond.code y_Mac_leave b_Mac_leave 3 rt_Mac_leave :: cx_tb
abbrev b_Mac_step : ByteArray := prog_6_method_7_code
def y_Mac_step : MethodName := ⟨"GasLedger$Machine", "step", "(LGasLedger$Frame;)V"⟩
abbrev rt_Mac_step : Option FieldType := (Option.none : Option FieldType)
theorem cd_Mac_step : Cond.code y_Mac_step b_Mac_step 7 rt_Mac_step ∈ cx_tb := gx_tb (c := (Jvm.Cond.code ({ cls := "GasLedger$Machine", name := "step", desc := "(LGasLedger$Frame;)V" } : Jvm.MethodName) prog_6_method_7_code (7 : Nat) (Option.none : Option Jvm.ClassFile.FieldType))) 362 (by decide +kernel) (by decide +kernel)
abbrev w_Mac_step : List Cond := Cond.code y_Mac_step b_Mac_step 7 rt_Mac_step :: cx_tb
abbrev b_Mac_priceOf : ByteArray := prog_6_method_8_code
def y_Mac_priceOf : MethodName := ⟨"GasLedger$Machine", "priceOf", "(LGasLedger$Frame;I)I"⟩
abbrev rt_Mac_priceOf : Option FieldType := (Option.some FieldType.int)
theorem cd_Mac_priceOf : Cond.code y_Mac_priceOf b_Mac_priceOf 5 rt_Mac_priceOf ∈ cx_tb := gx_tb (c := (Jvm.Cond.code ({ cls := "GasLedger$Machine", name := "priceOf", desc := "(LGasLedger$Frame;I)I" } : Jvm.MethodName) prog_6_method_8_code (5 : Nat) (Option.some Jvm.ClassFile.FieldType.int))) 371 (by decide +kernel) (by decide +kernel)
abbrev w_Mac_priceOf : List Cond := Cond.code y_Mac_priceOf b_Mac_priceOf 5 rt_Mac_priceOf :: cx_tb
abbrev b_Mac_needsOf : ByteArray := prog_6_method_9_code
def y_Mac_needsOf : MethodName := ⟨"GasLedger$Machine", "needsOf", "(II)I"⟩
abbrev rt_Mac_needsOf : Option FieldType := (Option.some FieldType.int)
theorem cd_Mac_needsOf : Cond.code y_Mac_needsOf b_Mac_needsOf 2 rt_Mac_needsOf ∈ cx_tb := gx_tb (c := (Jvm.Cond.code ({ cls := "GasLedger$Machine", name := "needsOf", desc := "(II)I" } : Jvm.MethodName) prog_6_method_9_code (2 : Nat) (Option.some Jvm.ClassFile.FieldType.int))) 394 (by decide +kernel) (by decide +kernel)
abbrev w_Mac_needsOf : List Cond := Cond.code y_Mac_needsOf b_Mac_needsOf 2 rt_Mac_needsOf :: cx_tb
abbrev b_Mac_onlyPushes : ByteArray := prog_6_method_10_code
def y_Mac_onlyPushes : MethodName := ⟨"GasLedger$Machine", "onlyPushes", "(I)Z"⟩
abbrev rt_Mac_onlyPushes : Option FieldType := (Option.some FieldType.boolean)
theorem cd_Mac_onlyPushes : Cond.code y_Mac_onlyPushes b_Mac_onlyPushes 1 rt_Mac_onlyPushes ∈ cx_tb := gx_tb (c := (Jvm.Cond.code ({ cls := "GasLedger$Machine", name := "onlyPushes", desc := "(I)Z" } : Jvm.MethodName) prog_6_method_10_code (1 : Nat) (Option.some Jvm.ClassFile.FieldType.boolean))) 391 (by decide +kernel) (by decide +kernel)
abbrev w_Mac_onlyPushes : List Cond := Cond.code y_Mac_onlyPushes b_Mac_onlyPushes 1 rt_Mac_onlyPushes :: cx_tb
abbrev b_Mac_resultOf : ByteArray := prog_6_method_11_code
def y_Mac_resultOf : MethodName := ⟨"GasLedger$Machine", "resultOf", "(LGasLedger$Frame;II)I"⟩
abbrev rt_Mac_resultOf : Option FieldType := (Option.some FieldType.int)
theorem cd_Mac_resultOf : Cond.code y_Mac_resultOf b_Mac_resultOf 6 rt_Mac_resultOf ∈ cx_tb := gx_tb (c := (Jvm.Cond.code ({ cls := "GasLedger$Machine", name := "resultOf", desc := "(LGasLedger$Frame;II)I" } : Jvm.MethodName) prog_6_method_11_code (6 : Nat) (Option.some Jvm.ClassFile.FieldType.int))) 484 (by decide +kernel) (by decide +kernel)
abbrev w_Mac_resultOf : List Cond := Cond.code y_Mac_resultOf b_Mac_resultOf 6 rt_Mac_resultOf :: cx_tb
abbrev b_Mac_reckon : ByteArray := prog_6_method_12_code
def y_Mac_reckon : MethodName := ⟨"GasLedger$Machine", "reckon", "(III)I"⟩
abbrev rt_Mac_reckon : Option FieldType := (Option.some FieldType.int)
theorem cd_Mac_reckon : Cond.code y_Mac_reckon b_Mac_reckon 3 rt_Mac_reckon ∈ cx_tb := gx_tb (c := (Jvm.Cond.code ({ cls := "GasLedger$Machine", name := "reckon", desc := "(III)I" } : Jvm.MethodName) prog_6_method_12_code (3 : Nat) (Option.some Jvm.ClassFile.FieldType.int))) 491 (by decide +kernel) (by decide +kernel)
abbrev w_Mac_reckon : List Cond := Cond.code y_Mac_reckon b_Mac_reckon 3 rt_Mac_reckon :: cx_tb
abbrev b_Mac_jump : ByteArray := prog_6_method_13_code
def y_Mac_jump : MethodName := ⟨"GasLedger$Machine", "jump", "(LGasLedger$Frame;I)V"⟩
abbrev rt_Mac_jump : Option FieldType := (Option.none : Option FieldType)
theorem cd_Mac_jump : Cond.code y_Mac_jump b_Mac_jump 3 rt_Mac_jump ∈ cx_tb := gx_tb (c := (Jvm.Cond.code ({ cls := "GasLedger$Machine", name := "jump", desc := "(LGasLedger$Frame;I)V" } : Jvm.MethodName) prog_6_method_13_code (3 : Nat) (Option.none : Option Jvm.ClassFile.FieldType))) 417 (by decide +kernel) (by decide +kernel)
abbrev w_Mac_jump : List Cond := Cond.code y_Mac_jump b_Mac_jump 3 rt_Mac_jump :: cx_tb
abbrev b_Mac_jumpIf : ByteArray := prog_6_method_14_code
def y_Mac_jumpIf : MethodName := ⟨"GasLedger$Machine", "jumpIf", "(LGasLedger$Frame;)V"⟩
abbrev rt_Mac_jumpIf : Option FieldType := (Option.none : Option FieldType)
theorem cd_Mac_jumpIf : Cond.code y_Mac_jumpIf b_Mac_jumpIf 3 rt_Mac_jumpIf ∈ cx_tb := gx_tb (c := (Jvm.Cond.code ({ cls := "GasLedger$Machine", name := "jumpIf", desc := "(LGasLedger$Frame;)V" } : Jvm.MethodName) prog_6_method_14_code (3 : Nat) (Option.none : Option Jvm.ClassFile.FieldType))) 421 (by decide +kernel) (by decide +kernel)
abbrev w_Mac_jumpIf : List Cond := Cond.code y_Mac_jumpIf b_Mac_jumpIf 3 rt_Mac_jumpIf :: cx_tb
abbrev b_Mac_store : ByteArray := prog_6_method_15_code
def y_Mac_store : MethodName := ⟨"GasLedger$Machine", "store", "(LGasLedger$Frame;)V"⟩
abbrev rt_Mac_store : Option FieldType := (Option.none : Option FieldType)
theorem cd_Mac_store : Cond.code y_Mac_store b_Mac_store 5 rt_Mac_store ∈ cx_tb := gx_tb (c := (Jvm.Cond.code ({ cls := "GasLedger$Machine", name := "store", desc := "(LGasLedger$Frame;)V" } : Jvm.MethodName) prog_6_method_15_code (5 : Nat) (Option.none : Option Jvm.ClassFile.FieldType))) 425 (by decide +kernel) (by decide +kernel)
abbrev w_Mac_store : List Cond := Cond.code y_Mac_store b_Mac_store 5 rt_Mac_store :: cx_tb
abbrev b_Mac_callOther : ByteArray := prog_6_method_16_code
def y_Mac_callOther : MethodName := ⟨"GasLedger$Machine", "callOther", "(LGasLedger$Frame;)V"⟩
abbrev rt_Mac_callOther : Option FieldType := (Option.none : Option FieldType)
theorem cd_Mac_callOther : Cond.code y_Mac_callOther b_Mac_callOther 7 rt_Mac_callOther ∈ cx_tb := gx_tb (c := (Jvm.Cond.code ({ cls := "GasLedger$Machine", name := "callOther", desc := "(LGasLedger$Frame;)V" } : Jvm.MethodName) prog_6_method_16_code (7 : Nat) (Option.none : Option Jvm.ClassFile.FieldType))) 430 (by decide +kernel) (by decide +kernel)
abbrev w_Mac_callOther : List Cond := Cond.code y_Mac_callOther b_Mac_callOther 7 rt_Mac_callOther :: cx_tb
abbrev b_Mac_delegate : ByteArray := prog_6_method_17_code
def y_Mac_delegate : MethodName := ⟨"GasLedger$Machine", "delegate", "(LGasLedger$Frame;)V"⟩
abbrev rt_Mac_delegate : Option FieldType := (Option.none : Option FieldType)
theorem cd_Mac_delegate : Cond.code y_Mac_delegate b_Mac_delegate 5 rt_Mac_delegate ∈ cx_tb := gx_tb (c := (Jvm.Cond.code ({ cls := "GasLedger$Machine", name := "delegate", desc := "(LGasLedger$Frame;)V" } : Jvm.MethodName) prog_6_method_17_code (5 : Nat) (Option.none : Option Jvm.ClassFile.FieldType))) 451 (by decide +kernel) (by decide +kernel)
abbrev w_Mac_delegate : List Cond := Cond.code y_Mac_delegate b_Mac_delegate 5 rt_Mac_delegate :: cx_tb
abbrev b_Mac_canEnter : ByteArray := prog_6_method_18_code
def y_Mac_canEnter : MethodName := ⟨"GasLedger$Machine", "canEnter", "(I)Z"⟩
abbrev rt_Mac_canEnter : Option FieldType := (Option.some FieldType.boolean)
theorem cd_Mac_canEnter : Cond.code y_Mac_canEnter b_Mac_canEnter 2 rt_Mac_canEnter ∈ cx_tb := gx_tb (c := (Jvm.Cond.code ({ cls := "GasLedger$Machine", name := "canEnter", desc := "(I)Z" } : Jvm.MethodName) prog_6_method_18_code (2 : Nat) (Option.some Jvm.ClassFile.FieldType.boolean))) 434 (by decide +kernel) (by decide +kernel)
abbrev w_Mac_canEnter : List Cond := Cond.code y_Mac_canEnter b_Mac_canEnter 2 rt_Mac_canEnter :: cx_tb
abbrev b_Mac_pushNoFrame : ByteArray := prog_6_method_19_code
def y_Mac_pushNoFrame : MethodName := ⟨"GasLedger$Machine", "pushNoFrame", "(LGasLedger$Frame;)V"⟩
abbrev rt_Mac_pushNoFrame : Option FieldType := (Option.none : Option FieldType)
theorem cd_Mac_pushNoFrame : Cond.code y_Mac_pushNoFrame b_Mac_pushNoFrame 2 rt_Mac_pushNoFrame ∈ cx_tb := gx_tb (c := (Jvm.Cond.code ({ cls := "GasLedger$Machine", name := "pushNoFrame", desc := "(LGasLedger$Frame;)V" } : Jvm.MethodName) prog_6_method_19_code (2 : Nat) (Option.none : Option Jvm.ClassFile.FieldType))) 439 (by decide +kernel) (by decide +kernel)
abbrev w_Mac_pushNoFrame : List Cond := Cond.code y_Mac_pushNoFrame b_Mac_pushNoFrame 2 rt_Mac_pushNoFrame :: cx_tb
abbrev b_Mac_takeGas : ByteArray := prog_6_method_20_code
def y_Mac_takeGas : MethodName := ⟨"GasLedger$Machine", "takeGas", "(LGasLedger$Frame;I)I"⟩
abbrev rt_Mac_takeGas : Option FieldType := (Option.some FieldType.int)
theorem cd_Mac_takeGas : Cond.code y_Mac_takeGas b_Mac_takeGas 4 rt_Mac_takeGas ∈ cx_tb := gx_tb (c := (Jvm.Cond.code ({ cls := "GasLedger$Machine", name := "takeGas", desc := "(LGasLedger$Frame;I)I" } : Jvm.MethodName) prog_6_method_20_code (4 : Nat) (Option.some Jvm.ClassFile.FieldType.int))) 447 (by decide +kernel) (by decide +kernel)
abbrev w_Mac_takeGas : List Cond := Cond.code y_Mac_takeGas b_Mac_takeGas 4 rt_Mac_takeGas :: cx_tb
abbrev b_Mac_create : ByteArray := prog_6_method_21_code
def y_Mac_create : MethodName := ⟨"GasLedger$Machine", "create", "(LGasLedger$Frame;)V"⟩
abbrev rt_Mac_create : Option FieldType := (Option.none : Option FieldType)
theorem cd_Mac_create : Cond.code y_Mac_create b_Mac_create 8 rt_Mac_create ∈ cx_tb := gx_tb (c := (Jvm.Cond.code ({ cls := "GasLedger$Machine", name := "create", desc := "(LGasLedger$Frame;)V" } : Jvm.MethodName) prog_6_method_21_code (8 : Nat) (Option.none : Option Jvm.ClassFile.FieldType))) 455 (by decide +kernel) (by decide +kernel)
abbrev w_Mac_create : List Cond := Cond.code y_Mac_create b_Mac_create 8 rt_Mac_create :: cx_tb
abbrev b_Mac_endSelf : ByteArray := prog_6_method_22_code
def y_Mac_endSelf : MethodName := ⟨"GasLedger$Machine", "endSelf", "(LGasLedger$Frame;)V"⟩
abbrev rt_Mac_endSelf : Option FieldType := (Option.none : Option FieldType)
theorem cd_Mac_endSelf : Cond.code y_Mac_endSelf b_Mac_endSelf 3 rt_Mac_endSelf ∈ cx_tb := gx_tb (c := (Jvm.Cond.code ({ cls := "GasLedger$Machine", name := "endSelf", desc := "(LGasLedger$Frame;)V" } : Jvm.MethodName) prog_6_method_22_code (3 : Nat) (Option.none : Option Jvm.ClassFile.FieldType))) 480 (by decide +kernel) (by decide +kernel)
abbrev w_Mac_endSelf : List Cond := Cond.code y_Mac_endSelf b_Mac_endSelf 3 rt_Mac_endSelf :: cx_tb
abbrev b_Rec_init : ByteArray := prog_7_method_1_code
def y_Rec_init : MethodName := ⟨"GasLedger$Receipts", "<init>", "()V"⟩
abbrev rt_Rec_init : Option FieldType := (Option.none : Option FieldType)
theorem cd_Rec_init : Cond.code y_Rec_init b_Rec_init 1 rt_Rec_init ∈ cx_tb := gx_tb (c := (Jvm.Cond.code ({ cls := "GasLedger$Receipts", name := "<init>", desc := "()V" } : Jvm.MethodName) prog_7_method_1_code (1 : Nat) (Option.none : Option Jvm.ClassFile.FieldType))) 229 (by decide +kernel) (by decide +kernel)
abbrev w_Rec_init : List Cond := Cond.code y_Rec_init b_Rec_init 1 rt_Rec_init :: cx_tb
abbrev b_Rec_add : ByteArray := prog_7_method_2_code
def y_Rec_add : MethodName := ⟨"GasLedger$Receipts", "add", "(IIII)V"⟩
abbrev rt_Rec_add : Option FieldType := (Option.none : Option FieldType)
theorem cd_Rec_add : Cond.code y_Rec_add b_Rec_add 5 rt_Rec_add ∈ cx_tb := gx_tb (c := (Jvm.Cond.code ({ cls := "GasLedger$Receipts", name := "add", desc := "(IIII)V" } : Jvm.MethodName) prog_7_method_2_code (5 : Nat) (Option.none : Option Jvm.ClassFile.FieldType))) 513 (by decide +kernel) (by decide +kernel)
abbrev w_Rec_add : List Cond := Cond.code y_Rec_add b_Rec_add 5 rt_Rec_add :: cx_tb
abbrev b_Rec_partOf : ByteArray := prog_7_method_3_code
def y_Rec_partOf : MethodName := ⟨"GasLedger$Receipts", "partOf", "(II)I"⟩
abbrev rt_Rec_partOf : Option FieldType := (Option.some FieldType.int)
theorem cd_Rec_partOf : Cond.code y_Rec_partOf b_Rec_partOf 3 rt_Rec_partOf ∈ cx_tb := gx_tb (c := (Jvm.Cond.code ({ cls := "GasLedger$Receipts", name := "partOf", desc := "(II)I" } : Jvm.MethodName) prog_7_method_3_code (3 : Nat) (Option.some Jvm.ClassFile.FieldType.int))) 582 (by decide +kernel) (by decide +kernel)
abbrev w_Rec_partOf : List Cond := Cond.code y_Rec_partOf b_Rec_partOf 3 rt_Rec_partOf :: cx_tb
end
section
theorem tb_0 : (Jvm.Cond.selects "GasLedger" ({ cls := "GasLedger", name := "refusalOf", desc := "(IIIIII)I" } : Jvm.MethodName) ({ cls := "GasLedger", name := "refusalOf", desc := "(IIIIII)I" } : Jvm.MethodName)) ∈ cx_tb := gx_tb 0 (by decide +kernel) (by decide +kernel)
theorem tb_1 : (Jvm.Cond.selects "GasLedger" ({ cls := "GasLedger", name := "perform", desc := "(IIIIII)I" } : Jvm.MethodName) ({ cls := "GasLedger", name := "perform", desc := "(IIIIII)I" } : Jvm.MethodName)) ∈ cx_tb := gx_tb 1 (by decide +kernel) (by decide +kernel)
theorem tb_2 : (Jvm.Cond.selects "GasLedger$Machine" ({ cls := "GasLedger$Machine", name := "enter", desc := "(IIIIII)V" } : Jvm.MethodName) ({ cls := "GasLedger$Machine", name := "enter", desc := "(IIIIII)V" } : Jvm.MethodName)) ∈ cx_tb := gx_tb 2 (by decide +kernel) (by decide +kernel)
theorem tb_3 : (Jvm.Cond.selects "GasLedger$Machine" ({ cls := "GasLedger$Machine", name := "step", desc := "(LGasLedger$Frame;)V" } : Jvm.MethodName) ({ cls := "GasLedger$Machine", name := "step", desc := "(LGasLedger$Frame;)V" } : Jvm.MethodName)) ∈ cx_tb := gx_tb 3 (by decide +kernel) (by decide +kernel)
theorem tb_4 : (Jvm.Cond.selects "GasLedger$Machine" ({ cls := "GasLedger$Machine", name := "priceOf", desc := "(LGasLedger$Frame;I)I" } : Jvm.MethodName) ({ cls := "GasLedger$Machine", name := "priceOf", desc := "(LGasLedger$Frame;I)I" } : Jvm.MethodName)) ∈ cx_tb := gx_tb 4 (by decide +kernel) (by decide +kernel)
theorem tb_5 : (Jvm.Cond.selects "GasLedger$Machine" ({ cls := "GasLedger$Machine", name := "jump", desc := "(LGasLedger$Frame;I)V" } : Jvm.MethodName) ({ cls := "GasLedger$Machine", name := "jump", desc := "(LGasLedger$Frame;I)V" } : Jvm.MethodName)) ∈ cx_tb := gx_tb 5 (by decide +kernel) (by decide +kernel)
theorem tb_6 : (Jvm.Cond.selects "GasLedger$Machine" ({ cls := "GasLedger$Machine", name := "jumpIf", desc := "(LGasLedger$Frame;)V" } : Jvm.MethodName) ({ cls := "GasLedger$Machine", name := "jumpIf", desc := "(LGasLedger$Frame;)V" } : Jvm.MethodName)) ∈ cx_tb := gx_tb 6 (by decide +kernel) (by decide +kernel)
theorem tb_7 : (Jvm.Cond.selects "GasLedger$Machine" ({ cls := "GasLedger$Machine", name := "store", desc := "(LGasLedger$Frame;)V" } : Jvm.MethodName) ({ cls := "GasLedger$Machine", name := "store", desc := "(LGasLedger$Frame;)V" } : Jvm.MethodName)) ∈ cx_tb := gx_tb 7 (by decide +kernel) (by decide +kernel)
theorem tb_8 : (Jvm.Cond.selects "GasLedger$Machine" ({ cls := "GasLedger$Machine", name := "callOther", desc := "(LGasLedger$Frame;)V" } : Jvm.MethodName) ({ cls := "GasLedger$Machine", name := "callOther", desc := "(LGasLedger$Frame;)V" } : Jvm.MethodName)) ∈ cx_tb := gx_tb 8 (by decide +kernel) (by decide +kernel)
theorem tb_9 : (Jvm.Cond.selects "GasLedger$Machine" ({ cls := "GasLedger$Machine", name := "canEnter", desc := "(I)Z" } : Jvm.MethodName) ({ cls := "GasLedger$Machine", name := "canEnter", desc := "(I)Z" } : Jvm.MethodName)) ∈ cx_tb := gx_tb 9 (by decide +kernel) (by decide +kernel)
theorem tb_10 : (Jvm.Cond.selects "GasLedger$Machine" ({ cls := "GasLedger$Machine", name := "pushNoFrame", desc := "(LGasLedger$Frame;)V" } : Jvm.MethodName) ({ cls := "GasLedger$Machine", name := "pushNoFrame", desc := "(LGasLedger$Frame;)V" } : Jvm.MethodName)) ∈ cx_tb := gx_tb 10 (by decide +kernel) (by decide +kernel)
theorem tb_11 : (Jvm.Cond.selects "GasLedger$Machine" ({ cls := "GasLedger$Machine", name := "takeGas", desc := "(LGasLedger$Frame;I)I" } : Jvm.MethodName) ({ cls := "GasLedger$Machine", name := "takeGas", desc := "(LGasLedger$Frame;I)I" } : Jvm.MethodName)) ∈ cx_tb := gx_tb 11 (by decide +kernel) (by decide +kernel)
theorem tb_12 : (Jvm.Cond.selects "GasLedger$Machine" ({ cls := "GasLedger$Machine", name := "delegate", desc := "(LGasLedger$Frame;)V" } : Jvm.MethodName) ({ cls := "GasLedger$Machine", name := "delegate", desc := "(LGasLedger$Frame;)V" } : Jvm.MethodName)) ∈ cx_tb := gx_tb 12 (by decide +kernel) (by decide +kernel)
theorem tb_13 : (Jvm.Cond.selects "GasLedger$Machine" ({ cls := "GasLedger$Machine", name := "create", desc := "(LGasLedger$Frame;)V" } : Jvm.MethodName) ({ cls := "GasLedger$Machine", name := "create", desc := "(LGasLedger$Frame;)V" } : Jvm.MethodName)) ∈ cx_tb := gx_tb 13 (by decide +kernel) (by decide +kernel)
theorem tb_14 : (Jvm.Cond.selects "GasLedger$Accounts" ({ cls := "GasLedger$Accounts", name := "filledSlots", desc := "(I)I" } : Jvm.MethodName) ({ cls := "GasLedger$Accounts", name := "filledSlots", desc := "(I)I" } : Jvm.MethodName)) ∈ cx_tb := gx_tb 14 (by decide +kernel) (by decide +kernel)
theorem tb_15 : (Jvm.Cond.selects "GasLedger$Machine" ({ cls := "GasLedger$Machine", name := "endSelf", desc := "(LGasLedger$Frame;)V" } : Jvm.MethodName) ({ cls := "GasLedger$Machine", name := "endSelf", desc := "(LGasLedger$Frame;)V" } : Jvm.MethodName)) ∈ cx_tb := gx_tb 15 (by decide +kernel) (by decide +kernel)
theorem tb_16 : (Jvm.Cond.selects "GasLedger$Machine" ({ cls := "GasLedger$Machine", name := "resultOf", desc := "(LGasLedger$Frame;II)I" } : Jvm.MethodName) ({ cls := "GasLedger$Machine", name := "resultOf", desc := "(LGasLedger$Frame;II)I" } : Jvm.MethodName)) ∈ cx_tb := gx_tb 16 (by decide +kernel) (by decide +kernel)
theorem tb_17 : (Jvm.Cond.selects "GasLedger$Machine" ({ cls := "GasLedger$Machine", name := "leave", desc := "(LGasLedger$Frame;)V" } : Jvm.MethodName) ({ cls := "GasLedger$Machine", name := "leave", desc := "(LGasLedger$Frame;)V" } : Jvm.MethodName)) ∈ cx_tb := gx_tb 17 (by decide +kernel) (by decide +kernel)
theorem tb_18 : (Jvm.Cond.selects "GasLedger$Machine" ({ cls := "GasLedger$Machine", name := "undo", desc := "(LGasLedger$Frame;)V" } : Jvm.MethodName) ({ cls := "GasLedger$Machine", name := "undo", desc := "(LGasLedger$Frame;)V" } : Jvm.MethodName)) ∈ cx_tb := gx_tb 18 (by decide +kernel) (by decide +kernel)
theorem tb_19 : (Jvm.Cond.selects "GasLedger$Accounts" ({ cls := "GasLedger$Accounts", name := "codeNumber", desc := "(I)I" } : Jvm.MethodName) ({ cls := "GasLedger$Accounts", name := "codeNumber", desc := "(I)I" } : Jvm.MethodName)) ∈ cx_tb := gx_tb 19 (by decide +kernel) (by decide +kernel)
theorem tb_20 : (Jvm.Cond.selects "GasLedgerModel" ({ cls := "GasLedgerModel", name := "valueOf", desc := "(I)I" } : Jvm.MethodName) ({ cls := "GasLedgerModel", name := "valueOf", desc := "(I)I" } : Jvm.MethodName)) ∈ cx_tb := gx_tb 20 (by decide +kernel) (by decide +kernel)
theorem tb_21 : (Jvm.Cond.selects "GasLedgerModel" ({ cls := "GasLedgerModel", name := "slotsRoot", desc := "(I)I" } : Jvm.MethodName) ({ cls := "GasLedgerModel", name := "slotsRoot", desc := "(I)I" } : Jvm.MethodName)) ∈ cx_tb := gx_tb 21 (by decide +kernel) (by decide +kernel)
theorem tb_22 : (Jvm.Cond.selects "GasLedgerModel" ({ cls := "GasLedgerModel", name := "map", desc := "(I)I" } : Jvm.MethodName) ({ cls := "GasLedgerModel", name := "map", desc := "(I)I" } : Jvm.MethodName)) ∈ cx_tb := gx_tb 22 (by decide +kernel) (by decide +kernel)
theorem tb_23 : (Jvm.Cond.selects "GasLedgerModel" ({ cls := "GasLedgerModel", name := "part", desc := "(III)I" } : Jvm.MethodName) ({ cls := "GasLedgerModel", name := "part", desc := "(III)I" } : Jvm.MethodName)) ∈ cx_tb := gx_tb 23 (by decide +kernel) (by decide +kernel)
theorem tb_24 : (Jvm.Cond.selects "GasLedgerModel" ({ cls := "GasLedgerModel", name := "empty", desc := "(I)Z" } : Jvm.MethodName) ({ cls := "GasLedgerModel", name := "empty", desc := "(I)Z" } : Jvm.MethodName)) ∈ cx_tb := gx_tb 24 (by decide +kernel) (by decide +kernel)
theorem tb_25 : (Jvm.Cond.selects "GasLedgerModel" ({ cls := "GasLedgerModel", name := "transact", desc := "(IIIIIII)I" } : Jvm.MethodName) ({ cls := "GasLedgerModel", name := "transact", desc := "(IIIIIII)I" } : Jvm.MethodName)) ∈ cx_tb := gx_tb 25 (by decide +kernel) (by decide +kernel)
theorem tb_26 : (Jvm.Cond.selects "GasLedgerModel" ({ cls := "GasLedgerModel", name := "enter", desc := "(IIIIII)V" } : Jvm.MethodName) ({ cls := "GasLedgerModel", name := "enter", desc := "(IIIIII)V" } : Jvm.MethodName)) ∈ cx_tb := gx_tb 26 (by decide +kernel) (by decide +kernel)
theorem tb_27 : (Jvm.Cond.selects "GasLedgerModel" ({ cls := "GasLedgerModel", name := "give", desc := "(III)V" } : Jvm.MethodName) ({ cls := "GasLedgerModel", name := "give", desc := "(III)V" } : Jvm.MethodName)) ∈ cx_tb := gx_tb 27 (by decide +kernel) (by decide +kernel)
theorem tb_28 : (Jvm.Cond.selects "GasLedgerModel" ({ cls := "GasLedgerModel", name := "step", desc := "()V" } : Jvm.MethodName) ({ cls := "GasLedgerModel", name := "step", desc := "()V" } : Jvm.MethodName)) ∈ cx_tb := gx_tb 28 (by decide +kernel) (by decide +kernel)
theorem tb_29 : (Jvm.Cond.selects "GasLedgerModel" ({ cls := "GasLedgerModel", name := "leave", desc := "(ZII)V" } : Jvm.MethodName) ({ cls := "GasLedgerModel", name := "leave", desc := "(ZII)V" } : Jvm.MethodName)) ∈ cx_tb := gx_tb 29 (by decide +kernel) (by decide +kernel)
theorem tb_30 : (Jvm.Cond.selects "GasLedgerModel" ({ cls := "GasLedgerModel", name := "push", desc := "(I)V" } : Jvm.MethodName) ({ cls := "GasLedgerModel", name := "push", desc := "(I)V" } : Jvm.MethodName)) ∈ cx_tb := gx_tb 30 (by decide +kernel) (by decide +kernel)
theorem tb_31 : (Jvm.Cond.selects "GasLedgerModel" ({ cls := "GasLedgerModel", name := "cost", desc := "(I)I" } : Jvm.MethodName) ({ cls := "GasLedgerModel", name := "cost", desc := "(I)I" } : Jvm.MethodName)) ∈ cx_tb := gx_tb 31 (by decide +kernel) (by decide +kernel)
theorem tb_32 : (Jvm.Cond.selects "GasLedgerModel" ({ cls := "GasLedgerModel", name := "peek", desc := "(I)I" } : Jvm.MethodName) ({ cls := "GasLedgerModel", name := "peek", desc := "(I)I" } : Jvm.MethodName)) ∈ cx_tb := gx_tb 32 (by decide +kernel) (by decide +kernel)
theorem tb_33 : (Jvm.Cond.selects "GasLedgerModel" ({ cls := "GasLedgerModel", name := "fails", desc := "(II)Z" } : Jvm.MethodName) ({ cls := "GasLedgerModel", name := "fails", desc := "(II)Z" } : Jvm.MethodName)) ∈ cx_tb := gx_tb 33 (by decide +kernel) (by decide +kernel)
theorem tb_34 : (Jvm.Cond.selects "GasLedgerModel" ({ cls := "GasLedgerModel", name := "shuffle", desc := "(II)V" } : Jvm.MethodName) ({ cls := "GasLedgerModel", name := "shuffle", desc := "(II)V" } : Jvm.MethodName)) ∈ cx_tb := gx_tb 34 (by decide +kernel) (by decide +kernel)
theorem tb_35 : (Jvm.Cond.selects "GasLedgerModel" ({ cls := "GasLedgerModel", name := "pop", desc := "()I" } : Jvm.MethodName) ({ cls := "GasLedgerModel", name := "pop", desc := "()I" } : Jvm.MethodName)) ∈ cx_tb := gx_tb 35 (by decide +kernel) (by decide +kernel)
theorem tb_36 : (Jvm.Cond.selects "GasLedgerModel" ({ cls := "GasLedgerModel", name := "reckon", desc := "(I)V" } : Jvm.MethodName) ({ cls := "GasLedgerModel", name := "reckon", desc := "(I)V" } : Jvm.MethodName)) ∈ cx_tb := gx_tb 36 (by decide +kernel) (by decide +kernel)
theorem tb_37 : (Jvm.Cond.selects "GasLedgerModel" ({ cls := "GasLedgerModel", name := "hold", desc := "(I)V" } : Jvm.MethodName) ({ cls := "GasLedgerModel", name := "hold", desc := "(I)V" } : Jvm.MethodName)) ∈ cx_tb := gx_tb 37 (by decide +kernel) (by decide +kernel)
theorem tb_38 : (Jvm.Cond.selects "GasLedgerModel" ({ cls := "GasLedgerModel", name := "act", desc := "(I)V" } : Jvm.MethodName) ({ cls := "GasLedgerModel", name := "act", desc := "(I)V" } : Jvm.MethodName)) ∈ cx_tb := gx_tb 38 (by decide +kernel) (by decide +kernel)
theorem tb_39 : (Jvm.Cond.selects "GasLedgerModel" ({ cls := "GasLedgerModel", name := "call", desc := "(Z)V" } : Jvm.MethodName) ({ cls := "GasLedgerModel", name := "call", desc := "(Z)V" } : Jvm.MethodName)) ∈ cx_tb := gx_tb 39 (by decide +kernel) (by decide +kernel)
theorem tb_40 : (Jvm.Cond.selects "GasLedgerModel" ({ cls := "GasLedgerModel", name := "create", desc := "()V" } : Jvm.MethodName) ({ cls := "GasLedgerModel", name := "create", desc := "()V" } : Jvm.MethodName)) ∈ cx_tb := gx_tb 40 (by decide +kernel) (by decide +kernel)
theorem tb_41 : (Jvm.Cond.selects "GasLedgerModel" ({ cls := "GasLedgerModel", name := "wipe", desc := "(I)V" } : Jvm.MethodName) ({ cls := "GasLedgerModel", name := "wipe", desc := "(I)V" } : Jvm.MethodName)) ∈ cx_tb := gx_tb 41 (by decide +kernel) (by decide +kernel)
theorem tb_42 : (Jvm.Cond.selects "GasLedgerModel" ({ cls := "GasLedgerModel", name := "bloom", desc := "()I" } : Jvm.MethodName) ({ cls := "GasLedgerModel", name := "bloom", desc := "()I" } : Jvm.MethodName)) ∈ cx_tb := gx_tb 42 (by decide +kernel) (by decide +kernel)
theorem tb_43 : (Jvm.Cond.initialized "GasLedgerLaw") ∈ cx_tb := gx_tb 43 (by decide +kernel) (by decide +kernel)
theorem tb_44 : (Jvm.Cond.initialized "GasLedger") ∈ cx_tb := gx_tb 44 (by decide +kernel) (by decide +kernel)
theorem tb_45 : (Jvm.Cond.initialized "GasLedger$Machine") ∈ cx_tb := gx_tb 45 (by decide +kernel) (by decide +kernel)
theorem tb_46 : (Jvm.Cond.initialized "GasLedger$Accounts") ∈ cx_tb := gx_tb 46 (by decide +kernel) (by decide +kernel)
theorem tb_47 : (Jvm.Cond.initialized "GasLedger$Logs") ∈ cx_tb := gx_tb 47 (by decide +kernel) (by decide +kernel)
theorem tb_48 : (Jvm.Cond.initialized "GasLedger$Frame") ∈ cx_tb := gx_tb 48 (by decide +kernel) (by decide +kernel)
theorem tb_49 : (Jvm.Cond.initialized "GasLedger$Receipts") ∈ cx_tb := gx_tb 49 (by decide +kernel) (by decide +kernel)
theorem tb_50 : (Jvm.Cond.initialized "GasLedgerModel") ∈ cx_tb := gx_tb 50 (by decide +kernel) (by decide +kernel)
theorem tb_51 : (Jvm.Cond.initialized "java/lang/System") ∈ cx_tb := gx_tb 51 (by decide +kernel) (by decide +kernel)
theorem tb_52 : (Jvm.Cond.initialized "java/lang/Math") ∈ cx_tb := gx_tb 52 (by decide +kernel) (by decide +kernel)
theorem tb_53 : (Jvm.Cond.initialized "GasLedger$Commitment") ∈ cx_tb := gx_tb 53 (by decide +kernel) (by decide +kernel)
theorem tb_54 : (Jvm.Cond.classLink "GasLedgerLaw" (7 : Nat) "GasLedger") ∈ cx_tb := gx_tb 54 (by decide +kernel) (by decide +kernel)
theorem tb_55 : (Jvm.Cond.instantiable "GasLedger" (14 : Nat)) ∈ cx_tb := gx_tb 55 (by decide +kernel) (by decide +kernel)
theorem tb_56 : (Jvm.Cond.methodLink "GasLedgerLaw" (9 : Nat) ({ cls := "GasLedger", name := "<init>", desc := "()V" } : Jvm.MethodName)) ∈ cx_tb := gx_tb 56 (by decide +kernel) (by decide +kernel)
theorem tb_57 : (Jvm.Cond.instanceMethod ({ cls := "GasLedger", name := "<init>", desc := "()V" } : Jvm.MethodName)) ∈ cx_tb := gx_tb 57 (by decide +kernel) (by decide +kernel)
theorem tb_59 : (Jvm.Cond.methodLink "GasLedger" (1 : Nat) ({ cls := "java/lang/Object", name := "<init>", desc := "()V" } : Jvm.MethodName)) ∈ cx_tb := gx_tb 59 (by decide +kernel) (by decide +kernel)
theorem tb_60 : (Jvm.Cond.instanceMethod ({ cls := "java/lang/Object", name := "<init>", desc := "()V" } : Jvm.MethodName)) ∈ cx_tb := gx_tb 60 (by decide +kernel) (by decide +kernel)
theorem tb_62 : (Jvm.Cond.classLink "GasLedger" (7 : Nat) "GasLedger$Machine") ∈ cx_tb := gx_tb 62 (by decide +kernel) (by decide +kernel)
theorem tb_63 : (Jvm.Cond.instantiable "GasLedger$Machine" (6 : Nat)) ∈ cx_tb := gx_tb 63 (by decide +kernel) (by decide +kernel)
theorem tb_64 : (Jvm.Cond.methodLink "GasLedger" (9 : Nat) ({ cls := "GasLedger$Machine", name := "<init>", desc := "()V" } : Jvm.MethodName)) ∈ cx_tb := gx_tb 64 (by decide +kernel) (by decide +kernel)
theorem tb_65 : (Jvm.Cond.instanceMethod ({ cls := "GasLedger$Machine", name := "<init>", desc := "()V" } : Jvm.MethodName)) ∈ cx_tb := gx_tb 65 (by decide +kernel) (by decide +kernel)
theorem tb_67 : (Jvm.Cond.methodLink "GasLedger$Machine" (3 : Nat) ({ cls := "java/lang/Object", name := "<init>", desc := "()V" } : Jvm.MethodName)) ∈ cx_tb := gx_tb 67 (by decide +kernel) (by decide +kernel)
theorem tb_68 : (Jvm.Cond.classLink "GasLedger$Machine" (9 : Nat) "GasLedger$Accounts") ∈ cx_tb := gx_tb 68 (by decide +kernel) (by decide +kernel)
theorem tb_69 : (Jvm.Cond.instantiable "GasLedger$Accounts" (6 : Nat)) ∈ cx_tb := gx_tb 69 (by decide +kernel) (by decide +kernel)
theorem tb_70 : (Jvm.Cond.methodLink "GasLedger$Machine" (11 : Nat) ({ cls := "GasLedger$Accounts", name := "<init>", desc := "()V" } : Jvm.MethodName)) ∈ cx_tb := gx_tb 70 (by decide +kernel) (by decide +kernel)
theorem tb_71 : (Jvm.Cond.instanceMethod ({ cls := "GasLedger$Accounts", name := "<init>", desc := "()V" } : Jvm.MethodName)) ∈ cx_tb := gx_tb 71 (by decide +kernel) (by decide +kernel)
theorem tb_73 : (Jvm.Cond.methodLink "GasLedger$Accounts" (3 : Nat) ({ cls := "java/lang/Object", name := "<init>", desc := "()V" } : Jvm.MethodName)) ∈ cx_tb := gx_tb 73 (by decide +kernel) (by decide +kernel)
theorem tb_74 : (Jvm.Cond.fieldLink "GasLedger$Accounts" (9 : Nat) "GasLedger$Accounts" "balances" "[I") ∈ cx_tb := gx_tb 74 (by decide +kernel) (by decide +kernel)
theorem tb_75 : (Jvm.Cond.fieldLink "GasLedger" (48 : Nat) "GasLedger$Accounts" "balances" "[I") ∈ cx_tb := gx_tb 75 (by decide +kernel) (by decide +kernel)
theorem tb_76 : (Jvm.Cond.fieldLink "GasLedger$Machine" (233 : Nat) "GasLedger$Accounts" "balances" "[I") ∈ cx_tb := gx_tb 76 (by decide +kernel) (by decide +kernel)
theorem tb_77 : (Jvm.Cond.fieldLink "GasLedger$Accounts" (15 : Nat) "GasLedger$Accounts" "nonces" "[I") ∈ cx_tb := gx_tb 77 (by decide +kernel) (by decide +kernel)
theorem tb_78 : (Jvm.Cond.fieldLink "GasLedger" (115 : Nat) "GasLedger$Accounts" "nonces" "[I") ∈ cx_tb := gx_tb 78 (by decide +kernel) (by decide +kernel)
theorem tb_79 : (Jvm.Cond.fieldLink "GasLedger$Machine" (248 : Nat) "GasLedger$Accounts" "nonces" "[I") ∈ cx_tb := gx_tb 79 (by decide +kernel) (by decide +kernel)
theorem tb_80 : (Jvm.Cond.fieldLink "GasLedger$Accounts" (18 : Nat) "GasLedger$Accounts" "sizes" "[I") ∈ cx_tb := gx_tb 80 (by decide +kernel) (by decide +kernel)
theorem tb_81 : (Jvm.Cond.fieldLink "GasLedger" (118 : Nat) "GasLedger$Accounts" "sizes" "[I") ∈ cx_tb := gx_tb 81 (by decide +kernel) (by decide +kernel)
theorem tb_82 : (Jvm.Cond.fieldLink "GasLedger$Machine" (221 : Nat) "GasLedger$Accounts" "sizes" "[I") ∈ cx_tb := gx_tb 82 (by decide +kernel) (by decide +kernel)
theorem tb_83 : (Jvm.Cond.fieldLink "GasLedger$Accounts" (21 : Nat) "GasLedger$Accounts" "words" "[I") ∈ cx_tb := gx_tb 83 (by decide +kernel) (by decide +kernel)
theorem tb_84 : (Jvm.Cond.fieldLink "GasLedger$Accounts" (24 : Nat) "GasLedger$Accounts" "slots" "[I") ∈ cx_tb := gx_tb 84 (by decide +kernel) (by decide +kernel)
theorem tb_85 : (Jvm.Cond.fieldLink "GasLedger" (59 : Nat) "GasLedger$Accounts" "slots" "[I") ∈ cx_tb := gx_tb 85 (by decide +kernel) (by decide +kernel)
theorem tb_86 : (Jvm.Cond.fieldLink "GasLedger$Machine" (227 : Nat) "GasLedger$Accounts" "slots" "[I") ∈ cx_tb := gx_tb 86 (by decide +kernel) (by decide +kernel)
theorem tb_87 : (Jvm.Cond.fieldLink "GasLedger$Accounts" (27 : Nat) "GasLedger$Accounts" "values" "[I") ∈ cx_tb := gx_tb 87 (by decide +kernel) (by decide +kernel)
theorem tb_100 : (Jvm.Cond.superclass "GasLedger$Accounts" "java/lang/Object") ∈ cx_tb := gx_tb 100 (by decide +kernel) (by decide +kernel)
theorem tb_101 : (Jvm.Cond.arrayClass Jvm.ClassFile.FieldType.int) ∈ cx_tb := gx_tb 101 (by decide +kernel) (by decide +kernel)
theorem tb_102 : (Jvm.Cond.classLink "GasLedger$Machine" (18 : Nat) "GasLedger$Logs") ∈ cx_tb := gx_tb 102 (by decide +kernel) (by decide +kernel)
theorem tb_103 : (Jvm.Cond.instantiable "GasLedger$Logs" (4 : Nat)) ∈ cx_tb := gx_tb 103 (by decide +kernel) (by decide +kernel)
theorem tb_104 : (Jvm.Cond.methodLink "GasLedger$Machine" (20 : Nat) ({ cls := "GasLedger$Logs", name := "<init>", desc := "()V" } : Jvm.MethodName)) ∈ cx_tb := gx_tb 104 (by decide +kernel) (by decide +kernel)
theorem tb_105 : (Jvm.Cond.instanceMethod ({ cls := "GasLedger$Logs", name := "<init>", desc := "()V" } : Jvm.MethodName)) ∈ cx_tb := gx_tb 105 (by decide +kernel) (by decide +kernel)
theorem tb_107 : (Jvm.Cond.methodLink "GasLedger$Logs" (3 : Nat) ({ cls := "java/lang/Object", name := "<init>", desc := "()V" } : Jvm.MethodName)) ∈ cx_tb := gx_tb 107 (by decide +kernel) (by decide +kernel)
theorem tb_108 : (Jvm.Cond.fieldLink "GasLedger$Logs" (9 : Nat) "GasLedger$Logs" "accounts" "[I") ∈ cx_tb := gx_tb 108 (by decide +kernel) (by decide +kernel)
theorem tb_109 : (Jvm.Cond.fieldLink "GasLedger$Logs" (15 : Nat) "GasLedger$Logs" "numbers" "[I") ∈ cx_tb := gx_tb 109 (by decide +kernel) (by decide +kernel)
theorem tb_110 : (Jvm.Cond.fieldLink "GasLedger$Logs" (18 : Nat) "GasLedger$Logs" "count" "I") ∈ cx_tb := gx_tb 110 (by decide +kernel) (by decide +kernel)
theorem tb_111 : (Jvm.Cond.fieldLink "GasLedger$Machine" (82 : Nat) "GasLedger$Logs" "count" "I") ∈ cx_tb := gx_tb 111 (by decide +kernel) (by decide +kernel)
theorem tb_112 : (Jvm.Cond.fieldLink "GasLedger" (142 : Nat) "GasLedger$Logs" "count" "I") ∈ cx_tb := gx_tb 112 (by decide +kernel) (by decide +kernel)
theorem tb_113 : (Jvm.Cond.fieldLink "GasLedger$Logs" (22 : Nat) "GasLedger$Logs" "bloom" "I") ∈ cx_tb := gx_tb 113 (by decide +kernel) (by decide +kernel)
theorem tb_114 : (Jvm.Cond.fieldLink "GasLedger$Machine" (88 : Nat) "GasLedger$Logs" "bloom" "I") ∈ cx_tb := gx_tb 114 (by decide +kernel) (by decide +kernel)
theorem tb_115 : (Jvm.Cond.fieldLink "GasLedger" (139 : Nat) "GasLedger$Logs" "bloom" "I") ∈ cx_tb := gx_tb 115 (by decide +kernel) (by decide +kernel)
theorem tb_124 : (Jvm.Cond.superclass "GasLedger$Logs" "java/lang/Object") ∈ cx_tb := gx_tb 124 (by decide +kernel) (by decide +kernel)
theorem tb_125 : (Jvm.Cond.classLink "GasLedger$Machine" (25 : Nat) "GasLedger$Frame") ∈ cx_tb := gx_tb 125 (by decide +kernel) (by decide +kernel)
theorem tb_127 : (Jvm.Cond.instantiable "GasLedger$Frame" (17 : Nat)) ∈ cx_tb := gx_tb 127 (by decide +kernel) (by decide +kernel)
theorem tb_128 : (Jvm.Cond.methodLink "GasLedger$Machine" (31 : Nat) ({ cls := "GasLedger$Frame", name := "<init>", desc := "()V" } : Jvm.MethodName)) ∈ cx_tb := gx_tb 128 (by decide +kernel) (by decide +kernel)
theorem tb_129 : (Jvm.Cond.instanceMethod ({ cls := "GasLedger$Frame", name := "<init>", desc := "()V" } : Jvm.MethodName)) ∈ cx_tb := gx_tb 129 (by decide +kernel) (by decide +kernel)
theorem tb_131 : (Jvm.Cond.methodLink "GasLedger$Frame" (3 : Nat) ({ cls := "java/lang/Object", name := "<init>", desc := "()V" } : Jvm.MethodName)) ∈ cx_tb := gx_tb 131 (by decide +kernel) (by decide +kernel)
theorem tb_132 : (Jvm.Cond.classLink "GasLedger$Frame" (15 : Nat) "GasLedger$Accounts") ∈ cx_tb := gx_tb 132 (by decide +kernel) (by decide +kernel)
theorem tb_133 : (Jvm.Cond.methodLink "GasLedger$Frame" (17 : Nat) ({ cls := "GasLedger$Accounts", name := "<init>", desc := "()V" } : Jvm.MethodName)) ∈ cx_tb := gx_tb 133 (by decide +kernel) (by decide +kernel)
theorem tb_134 : (Jvm.Cond.fieldLink "GasLedger$Frame" (22 : Nat) "GasLedger$Frame" "self" "I") ∈ cx_tb := gx_tb 134 (by decide +kernel) (by decide +kernel)
theorem tb_135 : (Jvm.Cond.fieldLink "GasLedger$Machine" (170 : Nat) "GasLedger$Frame" "self" "I") ∈ cx_tb := gx_tb 135 (by decide +kernel) (by decide +kernel)
theorem tb_136 : (Jvm.Cond.fieldLink "GasLedger$Frame" (26 : Nat) "GasLedger$Frame" "coder" "I") ∈ cx_tb := gx_tb 136 (by decide +kernel) (by decide +kernel)
theorem tb_137 : (Jvm.Cond.fieldLink "GasLedger$Machine" (113 : Nat) "GasLedger$Frame" "coder" "I") ∈ cx_tb := gx_tb 137 (by decide +kernel) (by decide +kernel)
theorem tb_138 : (Jvm.Cond.fieldLink "GasLedger$Frame" (29 : Nat) "GasLedger$Frame" "place" "I") ∈ cx_tb := gx_tb 138 (by decide +kernel) (by decide +kernel)
theorem tb_139 : (Jvm.Cond.fieldLink "GasLedger$Machine" (116 : Nat) "GasLedger$Frame" "place" "I") ∈ cx_tb := gx_tb 139 (by decide +kernel) (by decide +kernel)
theorem tb_140 : (Jvm.Cond.fieldLink "GasLedger$Frame" (32 : Nat) "GasLedger$Frame" "caller" "I") ∈ cx_tb := gx_tb 140 (by decide +kernel) (by decide +kernel)
theorem tb_141 : (Jvm.Cond.fieldLink "GasLedger$Machine" (208 : Nat) "GasLedger$Frame" "caller" "I") ∈ cx_tb := gx_tb 141 (by decide +kernel) (by decide +kernel)
theorem tb_142 : (Jvm.Cond.fieldLink "GasLedger$Frame" (35 : Nat) "GasLedger$Frame" "value" "I") ∈ cx_tb := gx_tb 142 (by decide +kernel) (by decide +kernel)
theorem tb_143 : (Jvm.Cond.fieldLink "GasLedger$Machine" (211 : Nat) "GasLedger$Frame" "value" "I") ∈ cx_tb := gx_tb 143 (by decide +kernel) (by decide +kernel)
theorem tb_144 : (Jvm.Cond.fieldLink "GasLedger$Frame" (38 : Nat) "GasLedger$Frame" "input" "I") ∈ cx_tb := gx_tb 144 (by decide +kernel) (by decide +kernel)
theorem tb_145 : (Jvm.Cond.fieldLink "GasLedger$Machine" (214 : Nat) "GasLedger$Frame" "input" "I") ∈ cx_tb := gx_tb 145 (by decide +kernel) (by decide +kernel)
theorem tb_146 : (Jvm.Cond.fieldLink "GasLedger$Frame" (41 : Nat) "GasLedger$Frame" "gas" "I") ∈ cx_tb := gx_tb 146 (by decide +kernel) (by decide +kernel)
theorem tb_147 : (Jvm.Cond.fieldLink "GasLedger$Machine" (104 : Nat) "GasLedger$Frame" "gas" "I") ∈ cx_tb := gx_tb 147 (by decide +kernel) (by decide +kernel)
theorem tb_148 : (Jvm.Cond.fieldLink "GasLedger" (151 : Nat) "GasLedger$Frame" "gas" "I") ∈ cx_tb := gx_tb 148 (by decide +kernel) (by decide +kernel)
theorem tb_149 : (Jvm.Cond.fieldLink "GasLedger$Frame" (9 : Nat) "GasLedger$Frame" "stack" "[I") ∈ cx_tb := gx_tb 149 (by decide +kernel) (by decide +kernel)
theorem tb_150 : (Jvm.Cond.fieldLink "GasLedger$Frame" (44 : Nat) "GasLedger$Frame" "height" "I") ∈ cx_tb := gx_tb 150 (by decide +kernel) (by decide +kernel)
theorem tb_151 : (Jvm.Cond.fieldLink "GasLedger$Machine" (127 : Nat) "GasLedger$Frame" "height" "I") ∈ cx_tb := gx_tb 151 (by decide +kernel) (by decide +kernel)
theorem tb_152 : (Jvm.Cond.fieldLink "GasLedger$Frame" (47 : Nat) "GasLedger$Frame" "ended" "Z") ∈ cx_tb := gx_tb 152 (by decide +kernel) (by decide +kernel)
theorem tb_153 : (Jvm.Cond.fieldLink "GasLedger$Machine" (55 : Nat) "GasLedger$Frame" "ended" "Z") ∈ cx_tb := gx_tb 153 (by decide +kernel) (by decide +kernel)
theorem tb_154 : (Jvm.Cond.fieldLink "GasLedger$Frame" (51 : Nat) "GasLedger$Frame" "endedWell" "Z") ∈ cx_tb := gx_tb 154 (by decide +kernel) (by decide +kernel)
theorem tb_155 : (Jvm.Cond.fieldLink "GasLedger$Machine" (98 : Nat) "GasLedger$Frame" "endedWell" "Z") ∈ cx_tb := gx_tb 155 (by decide +kernel) (by decide +kernel)
theorem tb_156 : (Jvm.Cond.fieldLink "GasLedger" (167 : Nat) "GasLedger$Frame" "endedWell" "Z") ∈ cx_tb := gx_tb 156 (by decide +kernel) (by decide +kernel)
theorem tb_157 : (Jvm.Cond.fieldLink "GasLedger$Frame" (54 : Nat) "GasLedger$Frame" "output" "I") ∈ cx_tb := gx_tb 157 (by decide +kernel) (by decide +kernel)
theorem tb_158 : (Jvm.Cond.fieldLink "GasLedger$Machine" (107 : Nat) "GasLedger$Frame" "output" "I") ∈ cx_tb := gx_tb 158 (by decide +kernel) (by decide +kernel)
theorem tb_159 : (Jvm.Cond.fieldLink "GasLedger" (170 : Nat) "GasLedger$Frame" "output" "I") ∈ cx_tb := gx_tb 159 (by decide +kernel) (by decide +kernel)
theorem tb_160 : (Jvm.Cond.fieldLink "GasLedger$Frame" (18 : Nat) "GasLedger$Frame" "accountsBefore" "LGasLedger$Accounts;") ∈ cx_tb := gx_tb 160 (by decide +kernel) (by decide +kernel)
theorem tb_161 : (Jvm.Cond.fieldLink "GasLedger$Machine" (69 : Nat) "GasLedger$Frame" "accountsBefore" "LGasLedger$Accounts;") ∈ cx_tb := gx_tb 161 (by decide +kernel) (by decide +kernel)
theorem tb_162 : (Jvm.Cond.fieldLink "GasLedger$Machine" (76 : Nat) "GasLedger$Frame" "refundBefore" "I") ∈ cx_tb := gx_tb 162 (by decide +kernel) (by decide +kernel)
theorem tb_163 : (Jvm.Cond.fieldLink "GasLedger$Machine" (79 : Nat) "GasLedger$Frame" "goersBefore" "I") ∈ cx_tb := gx_tb 163 (by decide +kernel) (by decide +kernel)
theorem tb_164 : (Jvm.Cond.fieldLink "GasLedger$Machine" (85 : Nat) "GasLedger$Frame" "logsBefore" "I") ∈ cx_tb := gx_tb 164 (by decide +kernel) (by decide +kernel)
theorem tb_165 : (Jvm.Cond.fieldLink "GasLedger$Machine" (91 : Nat) "GasLedger$Frame" "bloomBefore" "I") ∈ cx_tb := gx_tb 165 (by decide +kernel) (by decide +kernel)
theorem tb_200 : (Jvm.Cond.superclass "GasLedger$Frame" "java/lang/Object") ∈ cx_tb := gx_tb 200 (by decide +kernel) (by decide +kernel)
theorem tb_201 : (Jvm.Cond.fieldLink "GasLedger$Machine" (12 : Nat) "GasLedger$Machine" "accounts" "LGasLedger$Accounts;") ∈ cx_tb := gx_tb 201 (by decide +kernel) (by decide +kernel)
theorem tb_202 : (Jvm.Cond.fieldLink "GasLedger" (45 : Nat) "GasLedger$Machine" "accounts" "LGasLedger$Accounts;") ∈ cx_tb := gx_tb 202 (by decide +kernel) (by decide +kernel)
theorem tb_203 : (Jvm.Cond.fieldLink "GasLedger$Machine" (21 : Nat) "GasLedger$Machine" "logs" "LGasLedger$Logs;") ∈ cx_tb := gx_tb 203 (by decide +kernel) (by decide +kernel)
theorem tb_204 : (Jvm.Cond.fieldLink "GasLedger" (81 : Nat) "GasLedger$Machine" "logs" "LGasLedger$Logs;") ∈ cx_tb := gx_tb 204 (by decide +kernel) (by decide +kernel)
theorem tb_205 : (Jvm.Cond.fieldLink "GasLedger$Machine" (27 : Nat) "GasLedger$Machine" "frames" "[LGasLedger$Frame;") ∈ cx_tb := gx_tb 205 (by decide +kernel) (by decide +kernel)
theorem tb_206 : (Jvm.Cond.fieldLink "GasLedger$Machine" (39 : Nat) "GasLedger$Machine" "depth" "I") ∈ cx_tb := gx_tb 206 (by decide +kernel) (by decide +kernel)
theorem tb_207 : (Jvm.Cond.fieldLink "GasLedger$Machine" (32 : Nat) "GasLedger$Machine" "refund" "I") ∈ cx_tb := gx_tb 207 (by decide +kernel) (by decide +kernel)
theorem tb_208 : (Jvm.Cond.fieldLink "GasLedger" (156 : Nat) "GasLedger$Machine" "refund" "I") ∈ cx_tb := gx_tb 208 (by decide +kernel) (by decide +kernel)
theorem tb_209 : (Jvm.Cond.fieldLink "GasLedger$Machine" (36 : Nat) "GasLedger$Machine" "goers" "I") ∈ cx_tb := gx_tb 209 (by decide +kernel) (by decide +kernel)
theorem tb_222 : (Jvm.Cond.superclass "GasLedger$Machine" "java/lang/Object") ∈ cx_tb := gx_tb 222 (by decide +kernel) (by decide +kernel)
theorem tb_223 : (Jvm.Cond.classLink "GasLedger" (16 : Nat) "GasLedger$Accounts") ∈ cx_tb := gx_tb 223 (by decide +kernel) (by decide +kernel)
theorem tb_224 : (Jvm.Cond.methodLink "GasLedger" (18 : Nat) ({ cls := "GasLedger$Accounts", name := "<init>", desc := "()V" } : Jvm.MethodName)) ∈ cx_tb := gx_tb 224 (by decide +kernel) (by decide +kernel)
theorem tb_225 : (Jvm.Cond.classLink "GasLedger" (23 : Nat) "GasLedger$Receipts") ∈ cx_tb := gx_tb 225 (by decide +kernel) (by decide +kernel)
theorem tb_226 : (Jvm.Cond.instantiable "GasLedger$Receipts" (5 : Nat)) ∈ cx_tb := gx_tb 226 (by decide +kernel) (by decide +kernel)
theorem tb_227 : (Jvm.Cond.methodLink "GasLedger" (25 : Nat) ({ cls := "GasLedger$Receipts", name := "<init>", desc := "()V" } : Jvm.MethodName)) ∈ cx_tb := gx_tb 227 (by decide +kernel) (by decide +kernel)
theorem tb_228 : (Jvm.Cond.instanceMethod ({ cls := "GasLedger$Receipts", name := "<init>", desc := "()V" } : Jvm.MethodName)) ∈ cx_tb := gx_tb 228 (by decide +kernel) (by decide +kernel)
theorem tb_230 : (Jvm.Cond.methodLink "GasLedger$Receipts" (3 : Nat) ({ cls := "java/lang/Object", name := "<init>", desc := "()V" } : Jvm.MethodName)) ∈ cx_tb := gx_tb 230 (by decide +kernel) (by decide +kernel)
theorem tb_231 : (Jvm.Cond.fieldLink "GasLedger$Receipts" (9 : Nat) "GasLedger$Receipts" "statuses" "[I") ∈ cx_tb := gx_tb 231 (by decide +kernel) (by decide +kernel)
theorem tb_232 : (Jvm.Cond.fieldLink "GasLedger$Receipts" (15 : Nat) "GasLedger$Receipts" "usedGas" "[I") ∈ cx_tb := gx_tb 232 (by decide +kernel) (by decide +kernel)
theorem tb_233 : (Jvm.Cond.fieldLink "GasLedger$Receipts" (18 : Nat) "GasLedger$Receipts" "outputs" "[I") ∈ cx_tb := gx_tb 233 (by decide +kernel) (by decide +kernel)
theorem tb_234 : (Jvm.Cond.fieldLink "GasLedger$Receipts" (21 : Nat) "GasLedger$Receipts" "logCounts" "[I") ∈ cx_tb := gx_tb 234 (by decide +kernel) (by decide +kernel)
theorem tb_235 : (Jvm.Cond.fieldLink "GasLedger$Receipts" (24 : Nat) "GasLedger$Receipts" "count" "I") ∈ cx_tb := gx_tb 235 (by decide +kernel) (by decide +kernel)
theorem tb_236 : (Jvm.Cond.fieldLink "GasLedger" (78 : Nat) "GasLedger$Receipts" "count" "I") ∈ cx_tb := gx_tb 236 (by decide +kernel) (by decide +kernel)
theorem tb_247 : (Jvm.Cond.superclass "GasLedger$Receipts" "java/lang/Object") ∈ cx_tb := gx_tb 247 (by decide +kernel) (by decide +kernel)
theorem tb_248 : (Jvm.Cond.fieldLink "GasLedger" (10 : Nat) "GasLedger" "machine" "LGasLedger$Machine;") ∈ cx_tb := gx_tb 248 (by decide +kernel) (by decide +kernel)
theorem tb_249 : (Jvm.Cond.fieldLink "GasLedger" (19 : Nat) "GasLedger" "atBegin" "LGasLedger$Accounts;") ∈ cx_tb := gx_tb 249 (by decide +kernel) (by decide +kernel)
theorem tb_250 : (Jvm.Cond.fieldLink "GasLedger" (26 : Nat) "GasLedger" "receipts" "LGasLedger$Receipts;") ∈ cx_tb := gx_tb 250 (by decide +kernel) (by decide +kernel)
theorem tb_251 : (Jvm.Cond.fieldLink "GasLedger" (30 : Nat) "GasLedger" "termsLimit" "I") ∈ cx_tb := gx_tb 251 (by decide +kernel) (by decide +kernel)
theorem tb_252 : (Jvm.Cond.fieldLink "GasLedger" (34 : Nat) "GasLedger" "termsPrice" "I") ∈ cx_tb := gx_tb 252 (by decide +kernel) (by decide +kernel)
theorem tb_253 : (Jvm.Cond.fieldLink "GasLedger" (102 : Nat) "GasLedger" "termsOff" "I") ∈ cx_tb := gx_tb 253 (by decide +kernel) (by decide +kernel)
theorem tb_254 : (Jvm.Cond.fieldLink "GasLedger" (62 : Nat) "GasLedger" "underWay" "Z") ∈ cx_tb := gx_tb 254 (by decide +kernel) (by decide +kernel)
theorem tb_255 : (Jvm.Cond.fieldLink "GasLedger" (69 : Nat) "GasLedger" "time" "I") ∈ cx_tb := gx_tb 255 (by decide +kernel) (by decide +kernel)
theorem tb_256 : (Jvm.Cond.fieldLink "GasLedger" (72 : Nat) "GasLedger" "miner" "I") ∈ cx_tb := gx_tb 256 (by decide +kernel) (by decide +kernel)
theorem tb_257 : (Jvm.Cond.fieldLink "GasLedger" (75 : Nat) "GasLedger" "usedGas" "I") ∈ cx_tb := gx_tb 257 (by decide +kernel) (by decide +kernel)
theorem tb_258 : (Jvm.Cond.fieldLink "GasLedger" (37 : Nat) "GasLedger" "begun" "I") ∈ cx_tb := gx_tb 258 (by decide +kernel) (by decide +kernel)
theorem tb_259 : (Jvm.Cond.fieldLink "GasLedger" (109 : Nat) "GasLedger" "accepted" "I") ∈ cx_tb := gx_tb 259 (by decide +kernel) (by decide +kernel)
theorem tb_260 : (Jvm.Cond.fieldLink "GasLedger" (112 : Nat) "GasLedger" "rejected" "I") ∈ cx_tb := gx_tb 260 (by decide +kernel) (by decide +kernel)
theorem tb_261 : (Jvm.Cond.fieldLink "GasLedger" (66 : Nat) "GasLedger" "latestTime" "I") ∈ cx_tb := gx_tb 261 (by decide +kernel) (by decide +kernel)
theorem tb_290 : (Jvm.Cond.superclass "GasLedger" "java/lang/Object") ∈ cx_tb := gx_tb 290 (by decide +kernel) (by decide +kernel)
theorem tb_291 : (Jvm.Cond.methodLink "GasLedgerLaw" (13 : Nat) ({ cls := "GasLedger", name := "fund", desc := "(II)Z" } : Jvm.MethodName)) ∈ cx_tb := gx_tb 291 (by decide +kernel) (by decide +kernel)
theorem tb_292 : (Jvm.Cond.instanceMethod ({ cls := "GasLedger", name := "fund", desc := "(II)Z" } : Jvm.MethodName)) ∈ cx_tb := gx_tb 292 (by decide +kernel) (by decide +kernel)
theorem tb_293 : (Jvm.Cond.selects "GasLedger" ({ cls := "GasLedger", name := "fund", desc := "(II)Z" } : Jvm.MethodName) ({ cls := "GasLedger", name := "fund", desc := "(II)Z" } : Jvm.MethodName)) ∈ cx_tb := gx_tb 293 (by decide +kernel) (by decide +kernel)
theorem tb_295 : (Jvm.Cond.methodLink "GasLedger" (40 : Nat) ({ cls := "GasLedger", name := "isAccount", desc := "(I)Z" } : Jvm.MethodName)) ∈ cx_tb := gx_tb 295 (by decide +kernel) (by decide +kernel)
theorem tb_296 : (Jvm.Cond.static ({ cls := "GasLedger", name := "isAccount", desc := "(I)Z" } : Jvm.MethodName)) ∈ cx_tb := gx_tb 296 (by decide +kernel) (by decide +kernel)
theorem tb_298 : (Jvm.Cond.constant "GasLedger" (44 : Nat) (1000000 : Int32)) ∈ cx_tb := gx_tb 298 (by decide +kernel) (by decide +kernel)
theorem tb_299 : (Jvm.Cond.methodLink "GasLedgerLaw" (18 : Nat) ({ cls := "GasLedger", name := "code", desc := "(II)Z" } : Jvm.MethodName)) ∈ cx_tb := gx_tb 299 (by decide +kernel) (by decide +kernel)
theorem tb_300 : (Jvm.Cond.instanceMethod ({ cls := "GasLedger", name := "code", desc := "(II)Z" } : Jvm.MethodName)) ∈ cx_tb := gx_tb 300 (by decide +kernel) (by decide +kernel)
theorem tb_301 : (Jvm.Cond.selects "GasLedger" ({ cls := "GasLedger", name := "code", desc := "(II)Z" } : Jvm.MethodName) ({ cls := "GasLedger", name := "code", desc := "(II)Z" } : Jvm.MethodName)) ∈ cx_tb := gx_tb 301 (by decide +kernel) (by decide +kernel)
theorem tb_303 : (Jvm.Cond.methodLink "GasLedger" (52 : Nat) ({ cls := "GasLedger$Accounts", name := "append", desc := "(II)Z" } : Jvm.MethodName)) ∈ cx_tb := gx_tb 303 (by decide +kernel) (by decide +kernel)
theorem tb_304 : (Jvm.Cond.instanceMethod ({ cls := "GasLedger$Accounts", name := "append", desc := "(II)Z" } : Jvm.MethodName)) ∈ cx_tb := gx_tb 304 (by decide +kernel) (by decide +kernel)
theorem tb_305 : (Jvm.Cond.selects "GasLedger$Accounts" ({ cls := "GasLedger$Accounts", name := "append", desc := "(II)Z" } : Jvm.MethodName) ({ cls := "GasLedger$Accounts", name := "append", desc := "(II)Z" } : Jvm.MethodName)) ∈ cx_tb := gx_tb 305 (by decide +kernel) (by decide +kernel)
theorem tb_307 : (Jvm.Cond.methodLink "GasLedgerLaw" (22 : Nat) ({ cls := "GasLedger", name := "preset", desc := "(III)Z" } : Jvm.MethodName)) ∈ cx_tb := gx_tb 307 (by decide +kernel) (by decide +kernel)
theorem tb_308 : (Jvm.Cond.instanceMethod ({ cls := "GasLedger", name := "preset", desc := "(III)Z" } : Jvm.MethodName)) ∈ cx_tb := gx_tb 308 (by decide +kernel) (by decide +kernel)
theorem tb_309 : (Jvm.Cond.selects "GasLedger" ({ cls := "GasLedger", name := "preset", desc := "(III)Z" } : Jvm.MethodName) ({ cls := "GasLedger", name := "preset", desc := "(III)Z" } : Jvm.MethodName)) ∈ cx_tb := gx_tb 309 (by decide +kernel) (by decide +kernel)
theorem tb_311 : (Jvm.Cond.methodLink "GasLedger" (56 : Nat) ({ cls := "GasLedger", name := "isSlot", desc := "(I)Z" } : Jvm.MethodName)) ∈ cx_tb := gx_tb 311 (by decide +kernel) (by decide +kernel)
theorem tb_312 : (Jvm.Cond.static ({ cls := "GasLedger", name := "isSlot", desc := "(I)Z" } : Jvm.MethodName)) ∈ cx_tb := gx_tb 312 (by decide +kernel) (by decide +kernel)
theorem tb_314 : (Jvm.Cond.methodLink "GasLedgerLaw" (27 : Nat) ({ cls := "GasLedger", name := "begin", desc := "(II)Z" } : Jvm.MethodName)) ∈ cx_tb := gx_tb 314 (by decide +kernel) (by decide +kernel)
theorem tb_315 : (Jvm.Cond.instanceMethod ({ cls := "GasLedger", name := "begin", desc := "(II)Z" } : Jvm.MethodName)) ∈ cx_tb := gx_tb 315 (by decide +kernel) (by decide +kernel)
theorem tb_316 : (Jvm.Cond.selects "GasLedger" ({ cls := "GasLedger", name := "begin", desc := "(II)Z" } : Jvm.MethodName) ({ cls := "GasLedger", name := "begin", desc := "(II)Z" } : Jvm.MethodName)) ∈ cx_tb := gx_tb 316 (by decide +kernel) (by decide +kernel)
theorem tb_318 : (Jvm.Cond.methodLink "GasLedger" (85 : Nat) ({ cls := "GasLedger$Logs", name := "cutBackTo", desc := "(II)V" } : Jvm.MethodName)) ∈ cx_tb := gx_tb 318 (by decide +kernel) (by decide +kernel)
end
section
theorem tb_319 : (Jvm.Cond.instanceMethod ({ cls := "GasLedger$Logs", name := "cutBackTo", desc := "(II)V" } : Jvm.MethodName)) ∈ cx_tb := gx_tb 319 (by decide +kernel) (by decide +kernel)
theorem tb_320 : (Jvm.Cond.selects "GasLedger$Logs" ({ cls := "GasLedger$Logs", name := "cutBackTo", desc := "(II)V" } : Jvm.MethodName) ({ cls := "GasLedger$Logs", name := "cutBackTo", desc := "(II)V" } : Jvm.MethodName)) ∈ cx_tb := gx_tb 320 (by decide +kernel) (by decide +kernel)
theorem tb_322 : (Jvm.Cond.methodLink "GasLedger" (91 : Nat) ({ cls := "GasLedger$Accounts", name := "copyFrom", desc := "(LGasLedger$Accounts;)V" } : Jvm.MethodName)) ∈ cx_tb := gx_tb 322 (by decide +kernel) (by decide +kernel)
theorem tb_323 : (Jvm.Cond.instanceMethod ({ cls := "GasLedger$Accounts", name := "copyFrom", desc := "(LGasLedger$Accounts;)V" } : Jvm.MethodName)) ∈ cx_tb := gx_tb 323 (by decide +kernel) (by decide +kernel)
theorem tb_324 : (Jvm.Cond.selects "GasLedger$Accounts" ({ cls := "GasLedger$Accounts", name := "copyFrom", desc := "(LGasLedger$Accounts;)V" } : Jvm.MethodName) ({ cls := "GasLedger$Accounts", name := "copyFrom", desc := "(LGasLedger$Accounts;)V" } : Jvm.MethodName)) ∈ cx_tb := gx_tb 324 (by decide +kernel) (by decide +kernel)
theorem tb_326 : (Jvm.Cond.methodLink "GasLedger$Accounts" (30 : Nat) ({ cls := "java/lang/System", name := "arraycopy", desc := "(Ljava/lang/Object;ILjava/lang/Object;II)V" } : Jvm.MethodName)) ∈ cx_tb := gx_tb 326 (by decide +kernel) (by decide +kernel)
theorem tb_327 : (Jvm.Cond.static ({ cls := "java/lang/System", name := "arraycopy", desc := "(Ljava/lang/Object;ILjava/lang/Object;II)V" } : Jvm.MethodName)) ∈ cx_tb := gx_tb 327 (by decide +kernel) (by decide +kernel)
theorem tb_328 : (Jvm.Cond.native ({ cls := "java/lang/System", name := "arraycopy", desc := "(Ljava/lang/Object;ILjava/lang/Object;II)V" } : Jvm.MethodName)) ∈ cx_tb := gx_tb 328 (by decide +kernel) (by decide +kernel)
theorem tb_329 : (Jvm.Cond.methodLink "GasLedgerLaw" (31 : Nat) ({ cls := "GasLedger", name := "send", desc := "(IIII)I" } : Jvm.MethodName)) ∈ cx_tb := gx_tb 329 (by decide +kernel) (by decide +kernel)
theorem tb_330 : (Jvm.Cond.instanceMethod ({ cls := "GasLedger", name := "send", desc := "(IIII)I" } : Jvm.MethodName)) ∈ cx_tb := gx_tb 330 (by decide +kernel) (by decide +kernel)
theorem tb_331 : (Jvm.Cond.selects "GasLedger" ({ cls := "GasLedger", name := "send", desc := "(IIII)I" } : Jvm.MethodName) ({ cls := "GasLedger", name := "send", desc := "(IIII)I" } : Jvm.MethodName)) ∈ cx_tb := gx_tb 331 (by decide +kernel) (by decide +kernel)
theorem tb_333 : (Jvm.Cond.methodLink "GasLedger" (95 : Nat) ({ cls := "GasLedger", name := "refusalOf", desc := "(IIIIII)I" } : Jvm.MethodName)) ∈ cx_tb := gx_tb 333 (by decide +kernel) (by decide +kernel)
theorem tb_335 : (Jvm.Cond.instanceMethod ({ cls := "GasLedger", name := "refusalOf", desc := "(IIIIII)I" } : Jvm.MethodName)) ∈ cx_tb := gx_tb 335 (by decide +kernel) (by decide +kernel)
theorem tb_337 : (Jvm.Cond.methodLink "GasLedger" (99 : Nat) ({ cls := "GasLedger", name := "perform", desc := "(IIIIII)I" } : Jvm.MethodName)) ∈ cx_tb := gx_tb 337 (by decide +kernel) (by decide +kernel)
theorem tb_339 : (Jvm.Cond.instanceMethod ({ cls := "GasLedger", name := "perform", desc := "(IIIIII)I" } : Jvm.MethodName)) ∈ cx_tb := gx_tb 339 (by decide +kernel) (by decide +kernel)
theorem tb_341 : (Jvm.Cond.methodLink "GasLedger" (147 : Nat) ({ cls := "GasLedger$Machine", name := "run", desc := "(IIIII)LGasLedger$Frame;" } : Jvm.MethodName)) ∈ cx_tb := gx_tb 341 (by decide +kernel) (by decide +kernel)
theorem tb_342 : (Jvm.Cond.instanceMethod ({ cls := "GasLedger$Machine", name := "run", desc := "(IIIII)LGasLedger$Frame;" } : Jvm.MethodName)) ∈ cx_tb := gx_tb 342 (by decide +kernel) (by decide +kernel)
theorem tb_343 : (Jvm.Cond.selects "GasLedger$Machine" ({ cls := "GasLedger$Machine", name := "run", desc := "(IIIII)LGasLedger$Frame;" } : Jvm.MethodName) ({ cls := "GasLedger$Machine", name := "run", desc := "(IIIII)LGasLedger$Frame;" } : Jvm.MethodName)) ∈ cx_tb := gx_tb 343 (by decide +kernel) (by decide +kernel)
theorem tb_345 : (Jvm.Cond.methodLink "GasLedger$Machine" (42 : Nat) ({ cls := "GasLedger$Machine", name := "enter", desc := "(IIIIII)V" } : Jvm.MethodName)) ∈ cx_tb := gx_tb 345 (by decide +kernel) (by decide +kernel)
theorem tb_347 : (Jvm.Cond.instanceMethod ({ cls := "GasLedger$Machine", name := "enter", desc := "(IIIIII)V" } : Jvm.MethodName)) ∈ cx_tb := gx_tb 347 (by decide +kernel) (by decide +kernel)
theorem tb_349 : (Jvm.Cond.methodLink "GasLedger$Machine" (66 : Nat) ({ cls := "GasLedger$Frame", name := "start", desc := "(IIIIII)V" } : Jvm.MethodName)) ∈ cx_tb := gx_tb 349 (by decide +kernel) (by decide +kernel)
theorem tb_350 : (Jvm.Cond.instanceMethod ({ cls := "GasLedger$Frame", name := "start", desc := "(IIIIII)V" } : Jvm.MethodName)) ∈ cx_tb := gx_tb 350 (by decide +kernel) (by decide +kernel)
theorem tb_351 : (Jvm.Cond.selects "GasLedger$Frame" ({ cls := "GasLedger$Frame", name := "start", desc := "(IIIIII)V" } : Jvm.MethodName) ({ cls := "GasLedger$Frame", name := "start", desc := "(IIIIII)V" } : Jvm.MethodName)) ∈ cx_tb := gx_tb 351 (by decide +kernel) (by decide +kernel)
theorem tb_353 : (Jvm.Cond.methodLink "GasLedger$Machine" (72 : Nat) ({ cls := "GasLedger$Accounts", name := "copyFrom", desc := "(LGasLedger$Accounts;)V" } : Jvm.MethodName)) ∈ cx_tb := gx_tb 353 (by decide +kernel) (by decide +kernel)
theorem tb_354 : (Jvm.Cond.methodLink "GasLedger$Machine" (46 : Nat) ({ cls := "GasLedger$Accounts", name := "give", desc := "(III)V" } : Jvm.MethodName)) ∈ cx_tb := gx_tb 354 (by decide +kernel) (by decide +kernel)
theorem tb_355 : (Jvm.Cond.instanceMethod ({ cls := "GasLedger$Accounts", name := "give", desc := "(III)V" } : Jvm.MethodName)) ∈ cx_tb := gx_tb 355 (by decide +kernel) (by decide +kernel)
theorem tb_356 : (Jvm.Cond.selects "GasLedger$Accounts" ({ cls := "GasLedger$Accounts", name := "give", desc := "(III)V" } : Jvm.MethodName) ({ cls := "GasLedger$Accounts", name := "give", desc := "(III)V" } : Jvm.MethodName)) ∈ cx_tb := gx_tb 356 (by decide +kernel) (by decide +kernel)
theorem tb_358 : (Jvm.Cond.constant "GasLedger$Machine" (50 : Nat) (100000 : Int32)) ∈ cx_tb := gx_tb 358 (by decide +kernel) (by decide +kernel)
theorem tb_359 : (Jvm.Cond.methodLink "GasLedger$Machine" (51 : Nat) ({ cls := "GasLedger$Machine", name := "step", desc := "(LGasLedger$Frame;)V" } : Jvm.MethodName)) ∈ cx_tb := gx_tb 359 (by decide +kernel) (by decide +kernel)
theorem tb_361 : (Jvm.Cond.instanceMethod ({ cls := "GasLedger$Machine", name := "step", desc := "(LGasLedger$Frame;)V" } : Jvm.MethodName)) ∈ cx_tb := gx_tb 361 (by decide +kernel) (by decide +kernel)
theorem tb_363 : (Jvm.Cond.methodLink "GasLedger$Machine" (119 : Nat) ({ cls := "GasLedger$Accounts", name := "wordOf", desc := "(II)I" } : Jvm.MethodName)) ∈ cx_tb := gx_tb 363 (by decide +kernel) (by decide +kernel)
theorem tb_364 : (Jvm.Cond.instanceMethod ({ cls := "GasLedger$Accounts", name := "wordOf", desc := "(II)I" } : Jvm.MethodName)) ∈ cx_tb := gx_tb 364 (by decide +kernel) (by decide +kernel)
theorem tb_365 : (Jvm.Cond.selects "GasLedger$Accounts" ({ cls := "GasLedger$Accounts", name := "wordOf", desc := "(II)I" } : Jvm.MethodName) ({ cls := "GasLedger$Accounts", name := "wordOf", desc := "(II)I" } : Jvm.MethodName)) ∈ cx_tb := gx_tb 365 (by decide +kernel) (by decide +kernel)
theorem tb_368 : (Jvm.Cond.methodLink "GasLedger$Machine" (123 : Nat) ({ cls := "GasLedger$Machine", name := "priceOf", desc := "(LGasLedger$Frame;I)I" } : Jvm.MethodName)) ∈ cx_tb := gx_tb 368 (by decide +kernel) (by decide +kernel)
theorem tb_370 : (Jvm.Cond.instanceMethod ({ cls := "GasLedger$Machine", name := "priceOf", desc := "(LGasLedger$Frame;I)I" } : Jvm.MethodName)) ∈ cx_tb := gx_tb 370 (by decide +kernel) (by decide +kernel)
theorem tb_372 : (Jvm.Cond.fieldLink "GasLedger$Machine" (183 : Nat) "GasLedger$Machine" "PRICES" "[I") ∈ cx_tb := gx_tb 372 (by decide +kernel) (by decide +kernel)
theorem tb_374 : (Jvm.Cond.methodLink "GasLedger$Machine" (187 : Nat) ({ cls := "GasLedger$Frame", name := "below", desc := "(I)I" } : Jvm.MethodName)) ∈ cx_tb := gx_tb 374 (by decide +kernel) (by decide +kernel)
theorem tb_375 : (Jvm.Cond.instanceMethod ({ cls := "GasLedger$Frame", name := "below", desc := "(I)I" } : Jvm.MethodName)) ∈ cx_tb := gx_tb 375 (by decide +kernel) (by decide +kernel)
theorem tb_376 : (Jvm.Cond.selects "GasLedger$Frame" ({ cls := "GasLedger$Frame", name := "below", desc := "(I)I" } : Jvm.MethodName) ({ cls := "GasLedger$Frame", name := "below", desc := "(I)I" } : Jvm.MethodName)) ∈ cx_tb := gx_tb 376 (by decide +kernel) (by decide +kernel)
theorem tb_378 : (Jvm.Cond.methodLink "GasLedger$Machine" (191 : Nat) ({ cls := "GasLedger$Accounts", name := "slotOf", desc := "(II)I" } : Jvm.MethodName)) ∈ cx_tb := gx_tb 378 (by decide +kernel) (by decide +kernel)
theorem tb_379 : (Jvm.Cond.instanceMethod ({ cls := "GasLedger$Accounts", name := "slotOf", desc := "(II)I" } : Jvm.MethodName)) ∈ cx_tb := gx_tb 379 (by decide +kernel) (by decide +kernel)
theorem tb_380 : (Jvm.Cond.selects "GasLedger$Accounts" ({ cls := "GasLedger$Accounts", name := "slotOf", desc := "(II)I" } : Jvm.MethodName) ({ cls := "GasLedger$Accounts", name := "slotOf", desc := "(II)I" } : Jvm.MethodName)) ∈ cx_tb := gx_tb 380 (by decide +kernel) (by decide +kernel)
theorem tb_383 : (Jvm.Cond.methodLink "GasLedger$Machine" (194 : Nat) ({ cls := "java/lang/Math", name := "min", desc := "(II)I" } : Jvm.MethodName)) ∈ cx_tb := gx_tb 383 (by decide +kernel) (by decide +kernel)
theorem tb_384 : (Jvm.Cond.static ({ cls := "java/lang/Math", name := "min", desc := "(II)I" } : Jvm.MethodName)) ∈ cx_tb := gx_tb 384 (by decide +kernel) (by decide +kernel)
theorem tb_386 : (Jvm.Cond.methodLink "GasLedger$Machine" (199 : Nat) ({ cls := "java/lang/Math", name := "max", desc := "(II)I" } : Jvm.MethodName)) ∈ cx_tb := gx_tb 386 (by decide +kernel) (by decide +kernel)
theorem tb_387 : (Jvm.Cond.static ({ cls := "java/lang/Math", name := "max", desc := "(II)I" } : Jvm.MethodName)) ∈ cx_tb := gx_tb 387 (by decide +kernel) (by decide +kernel)
theorem tb_389 : (Jvm.Cond.methodLink "GasLedger$Machine" (130 : Nat) ({ cls := "GasLedger$Machine", name := "onlyPushes", desc := "(I)Z" } : Jvm.MethodName)) ∈ cx_tb := gx_tb 389 (by decide +kernel) (by decide +kernel)
theorem tb_390 : (Jvm.Cond.static ({ cls := "GasLedger$Machine", name := "onlyPushes", desc := "(I)Z" } : Jvm.MethodName)) ∈ cx_tb := gx_tb 390 (by decide +kernel) (by decide +kernel)
theorem tb_392 : (Jvm.Cond.methodLink "GasLedger$Machine" (134 : Nat) ({ cls := "GasLedger$Machine", name := "needsOf", desc := "(II)I" } : Jvm.MethodName)) ∈ cx_tb := gx_tb 392 (by decide +kernel) (by decide +kernel)
theorem tb_393 : (Jvm.Cond.static ({ cls := "GasLedger$Machine", name := "needsOf", desc := "(II)I" } : Jvm.MethodName)) ∈ cx_tb := gx_tb 393 (by decide +kernel) (by decide +kernel)
theorem tb_395 : (Jvm.Cond.fieldLink "GasLedger$Machine" (202 : Nat) "GasLedger$Machine" "NEEDS" "[I") ∈ cx_tb := gx_tb 395 (by decide +kernel) (by decide +kernel)
theorem tb_397 : (Jvm.Cond.methodLink "GasLedger$Machine" (137 : Nat) ({ cls := "GasLedger$Frame", name := "fail", desc := "()V" } : Jvm.MethodName)) ∈ cx_tb := gx_tb 397 (by decide +kernel) (by decide +kernel)
theorem tb_398 : (Jvm.Cond.instanceMethod ({ cls := "GasLedger$Frame", name := "fail", desc := "()V" } : Jvm.MethodName)) ∈ cx_tb := gx_tb 398 (by decide +kernel) (by decide +kernel)
theorem tb_399 : (Jvm.Cond.selects "GasLedger$Frame" ({ cls := "GasLedger$Frame", name := "fail", desc := "()V" } : Jvm.MethodName) ({ cls := "GasLedger$Frame", name := "fail", desc := "()V" } : Jvm.MethodName)) ∈ cx_tb := gx_tb 399 (by decide +kernel) (by decide +kernel)
theorem tb_401 : (Jvm.Cond.methodLink "GasLedger$Frame" (57 : Nat) ({ cls := "GasLedger$Frame", name := "end", desc := "(ZI)V" } : Jvm.MethodName)) ∈ cx_tb := gx_tb 401 (by decide +kernel) (by decide +kernel)
theorem tb_402 : (Jvm.Cond.instanceMethod ({ cls := "GasLedger$Frame", name := "end", desc := "(ZI)V" } : Jvm.MethodName)) ∈ cx_tb := gx_tb 402 (by decide +kernel) (by decide +kernel)
theorem tb_403 : (Jvm.Cond.selects "GasLedger$Frame" ({ cls := "GasLedger$Frame", name := "end", desc := "(ZI)V" } : Jvm.MethodName) ({ cls := "GasLedger$Frame", name := "end", desc := "(ZI)V" } : Jvm.MethodName)) ∈ cx_tb := gx_tb 403 (by decide +kernel) (by decide +kernel)
theorem tb_405 : (Jvm.Cond.methodLink "GasLedger$Machine" (140 : Nat) ({ cls := "GasLedger$Frame", name := "end", desc := "(ZI)V" } : Jvm.MethodName)) ∈ cx_tb := gx_tb 405 (by decide +kernel) (by decide +kernel)
theorem tb_406 : (Jvm.Cond.methodLink "GasLedger$Machine" (144 : Nat) ({ cls := "GasLedger$Frame", name := "pop", desc := "()I" } : Jvm.MethodName)) ∈ cx_tb := gx_tb 406 (by decide +kernel) (by decide +kernel)
theorem tb_407 : (Jvm.Cond.instanceMethod ({ cls := "GasLedger$Frame", name := "pop", desc := "()I" } : Jvm.MethodName)) ∈ cx_tb := gx_tb 407 (by decide +kernel) (by decide +kernel)
theorem tb_408 : (Jvm.Cond.selects "GasLedger$Frame" ({ cls := "GasLedger$Frame", name := "pop", desc := "()I" } : Jvm.MethodName) ({ cls := "GasLedger$Frame", name := "pop", desc := "()I" } : Jvm.MethodName)) ∈ cx_tb := gx_tb 408 (by decide +kernel) (by decide +kernel)
theorem tb_410 : (Jvm.Cond.methodLink "GasLedger$Machine" (148 : Nat) ({ cls := "GasLedger$Frame", name := "swap", desc := "(I)V" } : Jvm.MethodName)) ∈ cx_tb := gx_tb 410 (by decide +kernel) (by decide +kernel)
theorem tb_411 : (Jvm.Cond.instanceMethod ({ cls := "GasLedger$Frame", name := "swap", desc := "(I)V" } : Jvm.MethodName)) ∈ cx_tb := gx_tb 411 (by decide +kernel) (by decide +kernel)
theorem tb_412 : (Jvm.Cond.selects "GasLedger$Frame" ({ cls := "GasLedger$Frame", name := "swap", desc := "(I)V" } : Jvm.MethodName) ({ cls := "GasLedger$Frame", name := "swap", desc := "(I)V" } : Jvm.MethodName)) ∈ cx_tb := gx_tb 412 (by decide +kernel) (by decide +kernel)
theorem tb_414 : (Jvm.Cond.methodLink "GasLedger$Machine" (151 : Nat) ({ cls := "GasLedger$Machine", name := "jump", desc := "(LGasLedger$Frame;I)V" } : Jvm.MethodName)) ∈ cx_tb := gx_tb 414 (by decide +kernel) (by decide +kernel)
theorem tb_416 : (Jvm.Cond.instanceMethod ({ cls := "GasLedger$Machine", name := "jump", desc := "(LGasLedger$Frame;I)V" } : Jvm.MethodName)) ∈ cx_tb := gx_tb 416 (by decide +kernel) (by decide +kernel)
theorem tb_418 : (Jvm.Cond.methodLink "GasLedger$Machine" (155 : Nat) ({ cls := "GasLedger$Machine", name := "jumpIf", desc := "(LGasLedger$Frame;)V" } : Jvm.MethodName)) ∈ cx_tb := gx_tb 418 (by decide +kernel) (by decide +kernel)
theorem tb_420 : (Jvm.Cond.instanceMethod ({ cls := "GasLedger$Machine", name := "jumpIf", desc := "(LGasLedger$Frame;)V" } : Jvm.MethodName)) ∈ cx_tb := gx_tb 420 (by decide +kernel) (by decide +kernel)
theorem tb_422 : (Jvm.Cond.methodLink "GasLedger$Machine" (158 : Nat) ({ cls := "GasLedger$Machine", name := "store", desc := "(LGasLedger$Frame;)V" } : Jvm.MethodName)) ∈ cx_tb := gx_tb 422 (by decide +kernel) (by decide +kernel)
theorem tb_424 : (Jvm.Cond.instanceMethod ({ cls := "GasLedger$Machine", name := "store", desc := "(LGasLedger$Frame;)V" } : Jvm.MethodName)) ∈ cx_tb := gx_tb 424 (by decide +kernel) (by decide +kernel)
theorem tb_427 : (Jvm.Cond.methodLink "GasLedger$Machine" (161 : Nat) ({ cls := "GasLedger$Machine", name := "callOther", desc := "(LGasLedger$Frame;)V" } : Jvm.MethodName)) ∈ cx_tb := gx_tb 427 (by decide +kernel) (by decide +kernel)
theorem tb_429 : (Jvm.Cond.instanceMethod ({ cls := "GasLedger$Machine", name := "callOther", desc := "(LGasLedger$Frame;)V" } : Jvm.MethodName)) ∈ cx_tb := gx_tb 429 (by decide +kernel) (by decide +kernel)
theorem tb_431 : (Jvm.Cond.methodLink "GasLedger$Machine" (230 : Nat) ({ cls := "GasLedger$Machine", name := "canEnter", desc := "(I)Z" } : Jvm.MethodName)) ∈ cx_tb := gx_tb 431 (by decide +kernel) (by decide +kernel)
theorem tb_433 : (Jvm.Cond.instanceMethod ({ cls := "GasLedger$Machine", name := "canEnter", desc := "(I)Z" } : Jvm.MethodName)) ∈ cx_tb := gx_tb 433 (by decide +kernel) (by decide +kernel)
theorem tb_436 : (Jvm.Cond.methodLink "GasLedger$Machine" (236 : Nat) ({ cls := "GasLedger$Machine", name := "pushNoFrame", desc := "(LGasLedger$Frame;)V" } : Jvm.MethodName)) ∈ cx_tb := gx_tb 436 (by decide +kernel) (by decide +kernel)
theorem tb_438 : (Jvm.Cond.instanceMethod ({ cls := "GasLedger$Machine", name := "pushNoFrame", desc := "(LGasLedger$Frame;)V" } : Jvm.MethodName)) ∈ cx_tb := gx_tb 438 (by decide +kernel) (by decide +kernel)
theorem tb_440 : (Jvm.Cond.methodLink "GasLedger$Machine" (110 : Nat) ({ cls := "GasLedger$Frame", name := "push", desc := "(I)V" } : Jvm.MethodName)) ∈ cx_tb := gx_tb 440 (by decide +kernel) (by decide +kernel)
theorem tb_441 : (Jvm.Cond.instanceMethod ({ cls := "GasLedger$Frame", name := "push", desc := "(I)V" } : Jvm.MethodName)) ∈ cx_tb := gx_tb 441 (by decide +kernel) (by decide +kernel)
theorem tb_442 : (Jvm.Cond.selects "GasLedger$Frame" ({ cls := "GasLedger$Frame", name := "push", desc := "(I)V" } : Jvm.MethodName) ({ cls := "GasLedger$Frame", name := "push", desc := "(I)V" } : Jvm.MethodName)) ∈ cx_tb := gx_tb 442 (by decide +kernel) (by decide +kernel)
theorem tb_444 : (Jvm.Cond.methodLink "GasLedger$Machine" (239 : Nat) ({ cls := "GasLedger$Machine", name := "takeGas", desc := "(LGasLedger$Frame;I)I" } : Jvm.MethodName)) ∈ cx_tb := gx_tb 444 (by decide +kernel) (by decide +kernel)
theorem tb_446 : (Jvm.Cond.instanceMethod ({ cls := "GasLedger$Machine", name := "takeGas", desc := "(LGasLedger$Frame;I)I" } : Jvm.MethodName)) ∈ cx_tb := gx_tb 446 (by decide +kernel) (by decide +kernel)
theorem tb_448 : (Jvm.Cond.methodLink "GasLedger$Machine" (164 : Nat) ({ cls := "GasLedger$Machine", name := "delegate", desc := "(LGasLedger$Frame;)V" } : Jvm.MethodName)) ∈ cx_tb := gx_tb 448 (by decide +kernel) (by decide +kernel)
theorem tb_450 : (Jvm.Cond.instanceMethod ({ cls := "GasLedger$Machine", name := "delegate", desc := "(LGasLedger$Frame;)V" } : Jvm.MethodName)) ∈ cx_tb := gx_tb 450 (by decide +kernel) (by decide +kernel)
theorem tb_452 : (Jvm.Cond.methodLink "GasLedger$Machine" (167 : Nat) ({ cls := "GasLedger$Machine", name := "create", desc := "(LGasLedger$Frame;)V" } : Jvm.MethodName)) ∈ cx_tb := gx_tb 452 (by decide +kernel) (by decide +kernel)
theorem tb_454 : (Jvm.Cond.instanceMethod ({ cls := "GasLedger$Machine", name := "create", desc := "(LGasLedger$Frame;)V" } : Jvm.MethodName)) ∈ cx_tb := gx_tb 454 (by decide +kernel) (by decide +kernel)
theorem tb_456 : (Jvm.Cond.methodLink "GasLedger$Machine" (245 : Nat) ({ cls := "GasLedger$Accounts", name := "leastEmpty", desc := "()I" } : Jvm.MethodName)) ∈ cx_tb := gx_tb 456 (by decide +kernel) (by decide +kernel)
theorem tb_457 : (Jvm.Cond.instanceMethod ({ cls := "GasLedger$Accounts", name := "leastEmpty", desc := "()I" } : Jvm.MethodName)) ∈ cx_tb := gx_tb 457 (by decide +kernel) (by decide +kernel)
theorem tb_458 : (Jvm.Cond.selects "GasLedger$Accounts" ({ cls := "GasLedger$Accounts", name := "leastEmpty", desc := "()I" } : Jvm.MethodName) ({ cls := "GasLedger$Accounts", name := "leastEmpty", desc := "()I" } : Jvm.MethodName)) ∈ cx_tb := gx_tb 458 (by decide +kernel) (by decide +kernel)
theorem tb_460 : (Jvm.Cond.methodLink "GasLedger$Accounts" (47 : Nat) ({ cls := "GasLedger$Accounts", name := "isEmpty", desc := "(I)Z" } : Jvm.MethodName)) ∈ cx_tb := gx_tb 460 (by decide +kernel) (by decide +kernel)
theorem tb_461 : (Jvm.Cond.instanceMethod ({ cls := "GasLedger$Accounts", name := "isEmpty", desc := "(I)Z" } : Jvm.MethodName)) ∈ cx_tb := gx_tb 461 (by decide +kernel) (by decide +kernel)
theorem tb_462 : (Jvm.Cond.selects "GasLedger$Accounts" ({ cls := "GasLedger$Accounts", name := "isEmpty", desc := "(I)Z" } : Jvm.MethodName) ({ cls := "GasLedger$Accounts", name := "isEmpty", desc := "(I)Z" } : Jvm.MethodName)) ∈ cx_tb := gx_tb 462 (by decide +kernel) (by decide +kernel)
theorem tb_464 : (Jvm.Cond.methodLink "GasLedger$Accounts" (43 : Nat) ({ cls := "GasLedger$Accounts", name := "filledSlots", desc := "(I)I" } : Jvm.MethodName)) ∈ cx_tb := gx_tb 464 (by decide +kernel) (by decide +kernel)
theorem tb_466 : (Jvm.Cond.instanceMethod ({ cls := "GasLedger$Accounts", name := "filledSlots", desc := "(I)I" } : Jvm.MethodName)) ∈ cx_tb := gx_tb 466 (by decide +kernel) (by decide +kernel)
theorem tb_468 : (Jvm.Cond.methodLink "GasLedger$Machine" (251 : Nat) ({ cls := "GasLedger$Accounts", name := "append", desc := "(II)Z" } : Jvm.MethodName)) ∈ cx_tb := gx_tb 468 (by decide +kernel) (by decide +kernel)
theorem tb_469 : (Jvm.Cond.methodLink "GasLedger$Machine" (173 : Nat) ({ cls := "GasLedger$Logs", name := "add", desc := "(II)V" } : Jvm.MethodName)) ∈ cx_tb := gx_tb 469 (by decide +kernel) (by decide +kernel)
theorem tb_470 : (Jvm.Cond.instanceMethod ({ cls := "GasLedger$Logs", name := "add", desc := "(II)V" } : Jvm.MethodName)) ∈ cx_tb := gx_tb 470 (by decide +kernel) (by decide +kernel)
theorem tb_471 : (Jvm.Cond.selects "GasLedger$Logs" ({ cls := "GasLedger$Logs", name := "add", desc := "(II)V" } : Jvm.MethodName) ({ cls := "GasLedger$Logs", name := "add", desc := "(II)V" } : Jvm.MethodName)) ∈ cx_tb := gx_tb 471 (by decide +kernel) (by decide +kernel)
theorem tb_473 : (Jvm.Cond.methodLink "GasLedger$Logs" (25 : Nat) ({ cls := "GasLedger$Commitment", name := "mix", desc := "(II)I" } : Jvm.MethodName)) ∈ cx_tb := gx_tb 473 (by decide +kernel) (by decide +kernel)
theorem tb_474 : (Jvm.Cond.static ({ cls := "GasLedger$Commitment", name := "mix", desc := "(II)I" } : Jvm.MethodName)) ∈ cx_tb := gx_tb 474 (by decide +kernel) (by decide +kernel)
theorem tb_476 : (Jvm.Cond.constant "GasLedger$Commitment" (7 : Nat) (668265263 : Int32)) ∈ cx_tb := gx_tb 476 (by decide +kernel) (by decide +kernel)
theorem tb_477 : (Jvm.Cond.methodLink "GasLedger$Machine" (176 : Nat) ({ cls := "GasLedger$Machine", name := "endSelf", desc := "(LGasLedger$Frame;)V" } : Jvm.MethodName)) ∈ cx_tb := gx_tb 477 (by decide +kernel) (by decide +kernel)
theorem tb_479 : (Jvm.Cond.instanceMethod ({ cls := "GasLedger$Machine", name := "endSelf", desc := "(LGasLedger$Frame;)V" } : Jvm.MethodName)) ∈ cx_tb := gx_tb 479 (by decide +kernel) (by decide +kernel)
theorem tb_481 : (Jvm.Cond.methodLink "GasLedger$Machine" (179 : Nat) ({ cls := "GasLedger$Machine", name := "resultOf", desc := "(LGasLedger$Frame;II)I" } : Jvm.MethodName)) ∈ cx_tb := gx_tb 481 (by decide +kernel) (by decide +kernel)
theorem tb_483 : (Jvm.Cond.instanceMethod ({ cls := "GasLedger$Machine", name := "resultOf", desc := "(LGasLedger$Frame;II)I" } : Jvm.MethodName)) ∈ cx_tb := gx_tb 483 (by decide +kernel) (by decide +kernel)
theorem tb_485 : (Jvm.Cond.methodLink "GasLedger$Machine" (205 : Nat) ({ cls := "GasLedger$Accounts", name := "balanceOf", desc := "(I)I" } : Jvm.MethodName)) ∈ cx_tb := gx_tb 485 (by decide +kernel) (by decide +kernel)
theorem tb_486 : (Jvm.Cond.instanceMethod ({ cls := "GasLedger$Accounts", name := "balanceOf", desc := "(I)I" } : Jvm.MethodName)) ∈ cx_tb := gx_tb 486 (by decide +kernel) (by decide +kernel)
theorem tb_487 : (Jvm.Cond.selects "GasLedger$Accounts" ({ cls := "GasLedger$Accounts", name := "balanceOf", desc := "(I)I" } : Jvm.MethodName) ({ cls := "GasLedger$Accounts", name := "balanceOf", desc := "(I)I" } : Jvm.MethodName)) ∈ cx_tb := gx_tb 487 (by decide +kernel) (by decide +kernel)
theorem tb_489 : (Jvm.Cond.methodLink "GasLedger$Machine" (217 : Nat) ({ cls := "GasLedger$Machine", name := "reckon", desc := "(III)I" } : Jvm.MethodName)) ∈ cx_tb := gx_tb 489 (by decide +kernel) (by decide +kernel)
theorem tb_490 : (Jvm.Cond.static ({ cls := "GasLedger$Machine", name := "reckon", desc := "(III)I" } : Jvm.MethodName)) ∈ cx_tb := gx_tb 490 (by decide +kernel) (by decide +kernel)
theorem tb_492 : (Jvm.Cond.methodLink "GasLedger$Machine" (59 : Nat) ({ cls := "GasLedger$Machine", name := "leave", desc := "(LGasLedger$Frame;)V" } : Jvm.MethodName)) ∈ cx_tb := gx_tb 492 (by decide +kernel) (by decide +kernel)
theorem tb_494 : (Jvm.Cond.instanceMethod ({ cls := "GasLedger$Machine", name := "leave", desc := "(LGasLedger$Frame;)V" } : Jvm.MethodName)) ∈ cx_tb := gx_tb 494 (by decide +kernel) (by decide +kernel)
theorem tb_496 : (Jvm.Cond.methodLink "GasLedger$Machine" (101 : Nat) ({ cls := "GasLedger$Machine", name := "undo", desc := "(LGasLedger$Frame;)V" } : Jvm.MethodName)) ∈ cx_tb := gx_tb 496 (by decide +kernel) (by decide +kernel)
theorem tb_498 : (Jvm.Cond.instanceMethod ({ cls := "GasLedger$Machine", name := "undo", desc := "(LGasLedger$Frame;)V" } : Jvm.MethodName)) ∈ cx_tb := gx_tb 498 (by decide +kernel) (by decide +kernel)
theorem tb_500 : (Jvm.Cond.methodLink "GasLedger$Machine" (94 : Nat) ({ cls := "GasLedger$Logs", name := "cutBackTo", desc := "(II)V" } : Jvm.MethodName)) ∈ cx_tb := gx_tb 500 (by decide +kernel) (by decide +kernel)
theorem tb_501 : (Jvm.Cond.methodLink "GasLedger" (159 : Nat) ({ cls := "java/lang/Math", name := "min", desc := "(II)I" } : Jvm.MethodName)) ∈ cx_tb := gx_tb 501 (by decide +kernel) (by decide +kernel)
theorem tb_502 : (Jvm.Cond.methodLink "GasLedger" (164 : Nat) ({ cls := "GasLedger$Machine", name := "removeGoers", desc := "()V" } : Jvm.MethodName)) ∈ cx_tb := gx_tb 502 (by decide +kernel) (by decide +kernel)
theorem tb_503 : (Jvm.Cond.instanceMethod ({ cls := "GasLedger$Machine", name := "removeGoers", desc := "()V" } : Jvm.MethodName)) ∈ cx_tb := gx_tb 503 (by decide +kernel) (by decide +kernel)
theorem tb_504 : (Jvm.Cond.selects "GasLedger$Machine" ({ cls := "GasLedger$Machine", name := "removeGoers", desc := "()V" } : Jvm.MethodName) ({ cls := "GasLedger$Machine", name := "removeGoers", desc := "()V" } : Jvm.MethodName)) ∈ cx_tb := gx_tb 504 (by decide +kernel) (by decide +kernel)
theorem tb_506 : (Jvm.Cond.methodLink "GasLedger$Machine" (62 : Nat) ({ cls := "GasLedger$Accounts", name := "clear", desc := "(I)V" } : Jvm.MethodName)) ∈ cx_tb := gx_tb 506 (by decide +kernel) (by decide +kernel)
theorem tb_507 : (Jvm.Cond.instanceMethod ({ cls := "GasLedger$Accounts", name := "clear", desc := "(I)V" } : Jvm.MethodName)) ∈ cx_tb := gx_tb 507 (by decide +kernel) (by decide +kernel)
theorem tb_508 : (Jvm.Cond.selects "GasLedger$Accounts" ({ cls := "GasLedger$Accounts", name := "clear", desc := "(I)V" } : Jvm.MethodName) ({ cls := "GasLedger$Accounts", name := "clear", desc := "(I)V" } : Jvm.MethodName)) ∈ cx_tb := gx_tb 508 (by decide +kernel) (by decide +kernel)
theorem tb_510 : (Jvm.Cond.methodLink "GasLedger" (173 : Nat) ({ cls := "GasLedger$Receipts", name := "add", desc := "(IIII)V" } : Jvm.MethodName)) ∈ cx_tb := gx_tb 510 (by decide +kernel) (by decide +kernel)
theorem tb_511 : (Jvm.Cond.instanceMethod ({ cls := "GasLedger$Receipts", name := "add", desc := "(IIII)V" } : Jvm.MethodName)) ∈ cx_tb := gx_tb 511 (by decide +kernel) (by decide +kernel)
theorem tb_512 : (Jvm.Cond.selects "GasLedger$Receipts" ({ cls := "GasLedger$Receipts", name := "add", desc := "(IIII)V" } : Jvm.MethodName) ({ cls := "GasLedger$Receipts", name := "add", desc := "(IIII)V" } : Jvm.MethodName)) ∈ cx_tb := gx_tb 512 (by decide +kernel) (by decide +kernel)
theorem tb_514 : (Jvm.Cond.methodLink "GasLedgerLaw" (36 : Nat) ({ cls := "GasLedger", name := "terms", desc := "(III)V" } : Jvm.MethodName)) ∈ cx_tb := gx_tb 514 (by decide +kernel) (by decide +kernel)
theorem tb_515 : (Jvm.Cond.instanceMethod ({ cls := "GasLedger", name := "terms", desc := "(III)V" } : Jvm.MethodName)) ∈ cx_tb := gx_tb 515 (by decide +kernel) (by decide +kernel)
theorem tb_516 : (Jvm.Cond.selects "GasLedger" ({ cls := "GasLedger", name := "terms", desc := "(III)V" } : Jvm.MethodName) ({ cls := "GasLedger", name := "terms", desc := "(III)V" } : Jvm.MethodName)) ∈ cx_tb := gx_tb 516 (by decide +kernel) (by decide +kernel)
theorem tb_518 : (Jvm.Cond.methodLink "GasLedgerLaw" (41 : Nat) ({ cls := "GasLedger", name := "pay", desc := "(IIII)I" } : Jvm.MethodName)) ∈ cx_tb := gx_tb 518 (by decide +kernel) (by decide +kernel)
theorem tb_519 : (Jvm.Cond.instanceMethod ({ cls := "GasLedger", name := "pay", desc := "(IIII)I" } : Jvm.MethodName)) ∈ cx_tb := gx_tb 519 (by decide +kernel) (by decide +kernel)
theorem tb_520 : (Jvm.Cond.selects "GasLedger" ({ cls := "GasLedger", name := "pay", desc := "(IIII)I" } : Jvm.MethodName) ({ cls := "GasLedger", name := "pay", desc := "(IIII)I" } : Jvm.MethodName)) ∈ cx_tb := gx_tb 520 (by decide +kernel) (by decide +kernel)
theorem tb_522 : (Jvm.Cond.methodLink "GasLedger" (105 : Nat) ({ cls := "GasLedger", name := "terms", desc := "(III)V" } : Jvm.MethodName)) ∈ cx_tb := gx_tb 522 (by decide +kernel) (by decide +kernel)
theorem tb_523 : (Jvm.Cond.methodLink "GasLedgerLaw" (45 : Nat) ({ cls := "GasLedger", name := "seal", desc := "(I)I" } : Jvm.MethodName)) ∈ cx_tb := gx_tb 523 (by decide +kernel) (by decide +kernel)
theorem tb_524 : (Jvm.Cond.instanceMethod ({ cls := "GasLedger", name := "seal", desc := "(I)I" } : Jvm.MethodName)) ∈ cx_tb := gx_tb 524 (by decide +kernel) (by decide +kernel)
theorem tb_525 : (Jvm.Cond.selects "GasLedger" ({ cls := "GasLedger", name := "seal", desc := "(I)I" } : Jvm.MethodName) ({ cls := "GasLedger", name := "seal", desc := "(I)I" } : Jvm.MethodName)) ∈ cx_tb := gx_tb 525 (by decide +kernel) (by decide +kernel)
theorem tb_527 : (Jvm.Cond.methodLink "GasLedgerLaw" (50 : Nat) ({ cls := "GasLedger", name := "look", desc := "(II)I" } : Jvm.MethodName)) ∈ cx_tb := gx_tb 527 (by decide +kernel) (by decide +kernel)
theorem tb_528 : (Jvm.Cond.instanceMethod ({ cls := "GasLedger", name := "look", desc := "(II)I" } : Jvm.MethodName)) ∈ cx_tb := gx_tb 528 (by decide +kernel) (by decide +kernel)
theorem tb_529 : (Jvm.Cond.selects "GasLedger" ({ cls := "GasLedger", name := "look", desc := "(II)I" } : Jvm.MethodName) ({ cls := "GasLedger", name := "look", desc := "(II)I" } : Jvm.MethodName)) ∈ cx_tb := gx_tb 529 (by decide +kernel) (by decide +kernel)
theorem tb_531 : (Jvm.Cond.methodLink "GasLedger" (121 : Nat) ({ cls := "GasLedger$Accounts", name := "slotsRoot", desc := "(I)I" } : Jvm.MethodName)) ∈ cx_tb := gx_tb 531 (by decide +kernel) (by decide +kernel)
theorem tb_532 : (Jvm.Cond.instanceMethod ({ cls := "GasLedger$Accounts", name := "slotsRoot", desc := "(I)I" } : Jvm.MethodName)) ∈ cx_tb := gx_tb 532 (by decide +kernel) (by decide +kernel)
theorem tb_533 : (Jvm.Cond.selects "GasLedger$Accounts" ({ cls := "GasLedger$Accounts", name := "slotsRoot", desc := "(I)I" } : Jvm.MethodName) ({ cls := "GasLedger$Accounts", name := "slotsRoot", desc := "(I)I" } : Jvm.MethodName)) ∈ cx_tb := gx_tb 533 (by decide +kernel) (by decide +kernel)
theorem tb_535 : (Jvm.Cond.methodLink "GasLedger$Accounts" (50 : Nat) ({ cls := "GasLedger$Commitment", name := "rootOfMap", desc := "([IIII)I" } : Jvm.MethodName)) ∈ cx_tb := gx_tb 535 (by decide +kernel) (by decide +kernel)
theorem tb_536 : (Jvm.Cond.static ({ cls := "GasLedger$Commitment", name := "rootOfMap", desc := "([IIII)I" } : Jvm.MethodName)) ∈ cx_tb := gx_tb 536 (by decide +kernel) (by decide +kernel)
theorem tb_538 : (Jvm.Cond.methodLink "GasLedger$Commitment" (8 : Nat) ({ cls := "GasLedger$Commitment", name := "rootOfPart", desc := "([IIIII)I" } : Jvm.MethodName)) ∈ cx_tb := gx_tb 538 (by decide +kernel) (by decide +kernel)
theorem tb_539 : (Jvm.Cond.static ({ cls := "GasLedger$Commitment", name := "rootOfPart", desc := "([IIIII)I" } : Jvm.MethodName)) ∈ cx_tb := gx_tb 539 (by decide +kernel) (by decide +kernel)
theorem tb_541 : (Jvm.Cond.methodLink "GasLedger$Commitment" (14 : Nat) ({ cls := "GasLedger$Commitment", name := "mix", desc := "(II)I" } : Jvm.MethodName)) ∈ cx_tb := gx_tb 541 (by decide +kernel) (by decide +kernel)
theorem tb_542 : (Jvm.Cond.methodLink "GasLedger" (125 : Nat) ({ cls := "GasLedger$Accounts", name := "valueOf", desc := "(I)I" } : Jvm.MethodName)) ∈ cx_tb := gx_tb 542 (by decide +kernel) (by decide +kernel)
theorem tb_543 : (Jvm.Cond.instanceMethod ({ cls := "GasLedger$Accounts", name := "valueOf", desc := "(I)I" } : Jvm.MethodName)) ∈ cx_tb := gx_tb 543 (by decide +kernel) (by decide +kernel)
theorem tb_544 : (Jvm.Cond.selects "GasLedger$Accounts" ({ cls := "GasLedger$Accounts", name := "valueOf", desc := "(I)I" } : Jvm.MethodName) ({ cls := "GasLedger$Accounts", name := "valueOf", desc := "(I)I" } : Jvm.MethodName)) ∈ cx_tb := gx_tb 544 (by decide +kernel) (by decide +kernel)
theorem tb_546 : (Jvm.Cond.methodLink "GasLedger$Accounts" (56 : Nat) ({ cls := "GasLedger$Commitment", name := "mix", desc := "(II)I" } : Jvm.MethodName)) ∈ cx_tb := gx_tb 546 (by decide +kernel) (by decide +kernel)
theorem tb_547 : (Jvm.Cond.methodLink "GasLedger$Accounts" (60 : Nat) ({ cls := "GasLedger$Accounts", name := "codeNumber", desc := "(I)I" } : Jvm.MethodName)) ∈ cx_tb := gx_tb 547 (by decide +kernel) (by decide +kernel)
theorem tb_549 : (Jvm.Cond.instanceMethod ({ cls := "GasLedger$Accounts", name := "codeNumber", desc := "(I)I" } : Jvm.MethodName)) ∈ cx_tb := gx_tb 549 (by decide +kernel) (by decide +kernel)
theorem tb_551 : (Jvm.Cond.methodLink "GasLedger$Accounts" (63 : Nat) ({ cls := "GasLedger$Accounts", name := "slotsRoot", desc := "(I)I" } : Jvm.MethodName)) ∈ cx_tb := gx_tb 551 (by decide +kernel) (by decide +kernel)
theorem tb_552 : (Jvm.Cond.methodLink "GasLedgerLaw" (55 : Nat) ({ cls := "GasLedger", name := "slot", desc := "(II)I" } : Jvm.MethodName)) ∈ cx_tb := gx_tb 552 (by decide +kernel) (by decide +kernel)
theorem tb_553 : (Jvm.Cond.instanceMethod ({ cls := "GasLedger", name := "slot", desc := "(II)I" } : Jvm.MethodName)) ∈ cx_tb := gx_tb 553 (by decide +kernel) (by decide +kernel)
theorem tb_554 : (Jvm.Cond.selects "GasLedger" ({ cls := "GasLedger", name := "slot", desc := "(II)I" } : Jvm.MethodName) ({ cls := "GasLedger", name := "slot", desc := "(II)I" } : Jvm.MethodName)) ∈ cx_tb := gx_tb 554 (by decide +kernel) (by decide +kernel)
theorem tb_556 : (Jvm.Cond.methodLink "GasLedger" (128 : Nat) ({ cls := "GasLedger$Accounts", name := "slotOf", desc := "(II)I" } : Jvm.MethodName)) ∈ cx_tb := gx_tb 556 (by decide +kernel) (by decide +kernel)
theorem tb_557 : (Jvm.Cond.methodLink "GasLedgerLaw" (59 : Nat) ({ cls := "GasLedger", name := "word", desc := "(II)I" } : Jvm.MethodName)) ∈ cx_tb := gx_tb 557 (by decide +kernel) (by decide +kernel)
theorem tb_558 : (Jvm.Cond.instanceMethod ({ cls := "GasLedger", name := "word", desc := "(II)I" } : Jvm.MethodName)) ∈ cx_tb := gx_tb 558 (by decide +kernel) (by decide +kernel)
theorem tb_559 : (Jvm.Cond.selects "GasLedger" ({ cls := "GasLedger", name := "word", desc := "(II)I" } : Jvm.MethodName) ({ cls := "GasLedger", name := "word", desc := "(II)I" } : Jvm.MethodName)) ∈ cx_tb := gx_tb 559 (by decide +kernel) (by decide +kernel)
theorem tb_561 : (Jvm.Cond.methodLink "GasLedger" (132 : Nat) ({ cls := "GasLedger$Accounts", name := "wordOf", desc := "(II)I" } : Jvm.MethodName)) ∈ cx_tb := gx_tb 561 (by decide +kernel) (by decide +kernel)
theorem tb_562 : (Jvm.Cond.methodLink "GasLedgerLaw" (63 : Nat) ({ cls := "GasLedger", name := "root", desc := "()I" } : Jvm.MethodName)) ∈ cx_tb := gx_tb 562 (by decide +kernel) (by decide +kernel)
theorem tb_563 : (Jvm.Cond.instanceMethod ({ cls := "GasLedger", name := "root", desc := "()I" } : Jvm.MethodName)) ∈ cx_tb := gx_tb 563 (by decide +kernel) (by decide +kernel)
theorem tb_564 : (Jvm.Cond.selects "GasLedger" ({ cls := "GasLedger", name := "root", desc := "()I" } : Jvm.MethodName) ({ cls := "GasLedger", name := "root", desc := "()I" } : Jvm.MethodName)) ∈ cx_tb := gx_tb 564 (by decide +kernel) (by decide +kernel)
theorem tb_566 : (Jvm.Cond.methodLink "GasLedger" (135 : Nat) ({ cls := "GasLedger$Accounts", name := "rootOfAll", desc := "()I" } : Jvm.MethodName)) ∈ cx_tb := gx_tb 566 (by decide +kernel) (by decide +kernel)
theorem tb_567 : (Jvm.Cond.instanceMethod ({ cls := "GasLedger$Accounts", name := "rootOfAll", desc := "()I" } : Jvm.MethodName)) ∈ cx_tb := gx_tb 567 (by decide +kernel) (by decide +kernel)
theorem tb_568 : (Jvm.Cond.selects "GasLedger$Accounts" ({ cls := "GasLedger$Accounts", name := "rootOfAll", desc := "()I" } : Jvm.MethodName) ({ cls := "GasLedger$Accounts", name := "rootOfAll", desc := "()I" } : Jvm.MethodName)) ∈ cx_tb := gx_tb 568 (by decide +kernel) (by decide +kernel)
theorem tb_570 : (Jvm.Cond.methodLink "GasLedger$Accounts" (66 : Nat) ({ cls := "GasLedger$Accounts", name := "valueOf", desc := "(I)I" } : Jvm.MethodName)) ∈ cx_tb := gx_tb 570 (by decide +kernel) (by decide +kernel)
theorem tb_571 : (Jvm.Cond.methodLink "GasLedgerLaw" (68 : Nat) ({ cls := "GasLedger", name := "block", desc := "(I)I" } : Jvm.MethodName)) ∈ cx_tb := gx_tb 571 (by decide +kernel) (by decide +kernel)
theorem tb_572 : (Jvm.Cond.instanceMethod ({ cls := "GasLedger", name := "block", desc := "(I)I" } : Jvm.MethodName)) ∈ cx_tb := gx_tb 572 (by decide +kernel) (by decide +kernel)
theorem tb_573 : (Jvm.Cond.selects "GasLedger" ({ cls := "GasLedger", name := "block", desc := "(I)I" } : Jvm.MethodName) ({ cls := "GasLedger", name := "block", desc := "(I)I" } : Jvm.MethodName)) ∈ cx_tb := gx_tb 573 (by decide +kernel) (by decide +kernel)
theorem tb_575 : (Jvm.Cond.methodLink "GasLedgerLaw" (72 : Nat) ({ cls := "GasLedger", name := "receipt", desc := "(II)I" } : Jvm.MethodName)) ∈ cx_tb := gx_tb 575 (by decide +kernel) (by decide +kernel)
theorem tb_576 : (Jvm.Cond.instanceMethod ({ cls := "GasLedger", name := "receipt", desc := "(II)I" } : Jvm.MethodName)) ∈ cx_tb := gx_tb 576 (by decide +kernel) (by decide +kernel)
theorem tb_577 : (Jvm.Cond.selects "GasLedger" ({ cls := "GasLedger", name := "receipt", desc := "(II)I" } : Jvm.MethodName) ({ cls := "GasLedger", name := "receipt", desc := "(II)I" } : Jvm.MethodName)) ∈ cx_tb := gx_tb 577 (by decide +kernel) (by decide +kernel)
theorem tb_579 : (Jvm.Cond.methodLink "GasLedger" (143 : Nat) ({ cls := "GasLedger$Receipts", name := "partOf", desc := "(II)I" } : Jvm.MethodName)) ∈ cx_tb := gx_tb 579 (by decide +kernel) (by decide +kernel)
theorem tb_580 : (Jvm.Cond.instanceMethod ({ cls := "GasLedger$Receipts", name := "partOf", desc := "(II)I" } : Jvm.MethodName)) ∈ cx_tb := gx_tb 580 (by decide +kernel) (by decide +kernel)
theorem tb_581 : (Jvm.Cond.selects "GasLedger$Receipts" ({ cls := "GasLedger$Receipts", name := "partOf", desc := "(II)I" } : Jvm.MethodName) ({ cls := "GasLedger$Receipts", name := "partOf", desc := "(II)I" } : Jvm.MethodName)) ∈ cx_tb := gx_tb 581 (by decide +kernel) (by decide +kernel)
theorem tb_583 : (Jvm.Cond.methodLink "GasLedgerLaw" (76 : Nat) ({ cls := "GasLedger", name := "log", desc := "(II)I" } : Jvm.MethodName)) ∈ cx_tb := gx_tb 583 (by decide +kernel) (by decide +kernel)
theorem tb_584 : (Jvm.Cond.instanceMethod ({ cls := "GasLedger", name := "log", desc := "(II)I" } : Jvm.MethodName)) ∈ cx_tb := gx_tb 584 (by decide +kernel) (by decide +kernel)
theorem tb_585 : (Jvm.Cond.selects "GasLedger" ({ cls := "GasLedger", name := "log", desc := "(II)I" } : Jvm.MethodName) ({ cls := "GasLedger", name := "log", desc := "(II)I" } : Jvm.MethodName)) ∈ cx_tb := gx_tb 585 (by decide +kernel) (by decide +kernel)
theorem tb_587 : (Jvm.Cond.methodLink "GasLedger" (146 : Nat) ({ cls := "GasLedger$Logs", name := "partOf", desc := "(II)I" } : Jvm.MethodName)) ∈ cx_tb := gx_tb 587 (by decide +kernel) (by decide +kernel)
theorem tb_588 : (Jvm.Cond.instanceMethod ({ cls := "GasLedger$Logs", name := "partOf", desc := "(II)I" } : Jvm.MethodName)) ∈ cx_tb := gx_tb 588 (by decide +kernel) (by decide +kernel)
theorem tb_589 : (Jvm.Cond.selects "GasLedger$Logs" ({ cls := "GasLedger$Logs", name := "partOf", desc := "(II)I" } : Jvm.MethodName) ({ cls := "GasLedger$Logs", name := "partOf", desc := "(II)I" } : Jvm.MethodName)) ∈ cx_tb := gx_tb 589 (by decide +kernel) (by decide +kernel)
theorem tb_591 : (Jvm.Cond.methodLink "GasLedgerLaw" (80 : Nat) ({ cls := "GasLedger", name := "total", desc := "()J" } : Jvm.MethodName)) ∈ cx_tb := gx_tb 591 (by decide +kernel) (by decide +kernel)
theorem tb_592 : (Jvm.Cond.instanceMethod ({ cls := "GasLedger", name := "total", desc := "()J" } : Jvm.MethodName)) ∈ cx_tb := gx_tb 592 (by decide +kernel) (by decide +kernel)
theorem tb_593 : (Jvm.Cond.selects "GasLedger" ({ cls := "GasLedger", name := "total", desc := "()J" } : Jvm.MethodName) ({ cls := "GasLedger", name := "total", desc := "()J" } : Jvm.MethodName)) ∈ cx_tb := gx_tb 593 (by decide +kernel) (by decide +kernel)
theorem tb_595 : (Jvm.Cond.classLink "GasLedgerLaw" (10 : Nat) "GasLedgerModel") ∈ cx_tb := gx_tb 595 (by decide +kernel) (by decide +kernel)
theorem tb_596 : (Jvm.Cond.instantiable "GasLedgerModel" (39 : Nat)) ∈ cx_tb := gx_tb 596 (by decide +kernel) (by decide +kernel)
theorem tb_597 : (Jvm.Cond.methodLink "GasLedgerLaw" (12 : Nat) ({ cls := "GasLedgerModel", name := "<init>", desc := "()V" } : Jvm.MethodName)) ∈ cx_tb := gx_tb 597 (by decide +kernel) (by decide +kernel)
theorem tb_598 : (Jvm.Cond.instanceMethod ({ cls := "GasLedgerModel", name := "<init>", desc := "()V" } : Jvm.MethodName)) ∈ cx_tb := gx_tb 598 (by decide +kernel) (by decide +kernel)
theorem tb_600 : (Jvm.Cond.methodLink "GasLedgerModel" (1 : Nat) ({ cls := "java/lang/Object", name := "<init>", desc := "()V" } : Jvm.MethodName)) ∈ cx_tb := gx_tb 600 (by decide +kernel) (by decide +kernel)
theorem tb_601 : (Jvm.Cond.fieldLink "GasLedgerModel" (7 : Nat) "GasLedgerModel" "now" "[I") ∈ cx_tb := gx_tb 601 (by decide +kernel) (by decide +kernel)
theorem tb_602 : (Jvm.Cond.fieldLink "GasLedgerModel" (13 : Nat) "GasLedgerModel" "before" "[I") ∈ cx_tb := gx_tb 602 (by decide +kernel) (by decide +kernel)
theorem tb_603 : (Jvm.Cond.fieldLink "GasLedgerModel" (115 : Nat) "GasLedgerModel" "refund" "I") ∈ cx_tb := gx_tb 603 (by decide +kernel) (by decide +kernel)
theorem tb_604 : (Jvm.Cond.fieldLink "GasLedgerModel" (86 : Nat) "GasLedgerModel" "begun" "I") ∈ cx_tb := gx_tb 604 (by decide +kernel) (by decide +kernel)
theorem tb_605 : (Jvm.Cond.fieldLink "GasLedgerModel" (195 : Nat) "GasLedgerModel" "open" "Z") ∈ cx_tb := gx_tb 605 (by decide +kernel) (by decide +kernel)
theorem tb_606 : (Jvm.Cond.fieldLink "GasLedgerModel" (206 : Nat) "GasLedgerModel" "miner" "I") ∈ cx_tb := gx_tb 606 (by decide +kernel) (by decide +kernel)
theorem tb_607 : (Jvm.Cond.fieldLink "GasLedgerModel" (218 : Nat) "GasLedgerModel" "time" "I") ∈ cx_tb := gx_tb 607 (by decide +kernel) (by decide +kernel)
theorem tb_608 : (Jvm.Cond.fieldLink "GasLedgerModel" (215 : Nat) "GasLedgerModel" "latest" "I") ∈ cx_tb := gx_tb 608 (by decide +kernel) (by decide +kernel)
theorem tb_609 : (Jvm.Cond.fieldLink "GasLedgerModel" (221 : Nat) "GasLedgerModel" "accepted" "I") ∈ cx_tb := gx_tb 609 (by decide +kernel) (by decide +kernel)
theorem tb_610 : (Jvm.Cond.fieldLink "GasLedgerModel" (224 : Nat) "GasLedgerModel" "rejected" "I") ∈ cx_tb := gx_tb 610 (by decide +kernel) (by decide +kernel)
end
section
theorem tb_611 : (Jvm.Cond.fieldLink "GasLedgerModel" (199 : Nat) "GasLedgerModel" "used" "I") ∈ cx_tb := gx_tb 611 (by decide +kernel) (by decide +kernel)
theorem tb_612 : (Jvm.Cond.fieldLink "GasLedgerModel" (212 : Nat) "GasLedgerModel" "receipts" "I") ∈ cx_tb := gx_tb 612 (by decide +kernel) (by decide +kernel)
theorem tb_613 : (Jvm.Cond.fieldLink "GasLedgerModel" (16 : Nat) "GasLedgerModel" "receipt" "[I") ∈ cx_tb := gx_tb 613 (by decide +kernel) (by decide +kernel)
theorem tb_614 : (Jvm.Cond.fieldLink "GasLedgerModel" (118 : Nat) "GasLedgerModel" "logs" "I") ∈ cx_tb := gx_tb 614 (by decide +kernel) (by decide +kernel)
theorem tb_615 : (Jvm.Cond.fieldLink "GasLedgerModel" (19 : Nat) "GasLedgerModel" "logAccount" "[I") ∈ cx_tb := gx_tb 615 (by decide +kernel) (by decide +kernel)
theorem tb_616 : (Jvm.Cond.fieldLink "GasLedgerModel" (22 : Nat) "GasLedgerModel" "logNumber" "[I") ∈ cx_tb := gx_tb 616 (by decide +kernel) (by decide +kernel)
theorem tb_617 : (Jvm.Cond.fieldLink "GasLedgerModel" (25 : Nat) "GasLedgerModel" "limit" "I") ∈ cx_tb := gx_tb 617 (by decide +kernel) (by decide +kernel)
theorem tb_618 : (Jvm.Cond.fieldLink "GasLedgerModel" (29 : Nat) "GasLedgerModel" "price" "I") ∈ cx_tb := gx_tb 618 (by decide +kernel) (by decide +kernel)
theorem tb_619 : (Jvm.Cond.fieldLink "GasLedgerModel" (185 : Nat) "GasLedgerModel" "off" "I") ∈ cx_tb := gx_tb 619 (by decide +kernel) (by decide +kernel)
theorem tb_620 : (Jvm.Cond.fieldLink "GasLedgerModel" (112 : Nat) "GasLedgerModel" "top" "I") ∈ cx_tb := gx_tb 620 (by decide +kernel) (by decide +kernel)
theorem tb_621 : (Jvm.Cond.fieldLink "GasLedgerModel" (32 : Nat) "GasLedgerModel" "self" "[I") ∈ cx_tb := gx_tb 621 (by decide +kernel) (by decide +kernel)
theorem tb_622 : (Jvm.Cond.fieldLink "GasLedgerModel" (35 : Nat) "GasLedgerModel" "runs" "[I") ∈ cx_tb := gx_tb 622 (by decide +kernel) (by decide +kernel)
theorem tb_623 : (Jvm.Cond.fieldLink "GasLedgerModel" (38 : Nat) "GasLedgerModel" "place" "[I") ∈ cx_tb := gx_tb 623 (by decide +kernel) (by decide +kernel)
theorem tb_624 : (Jvm.Cond.fieldLink "GasLedgerModel" (41 : Nat) "GasLedgerModel" "caller" "[I") ∈ cx_tb := gx_tb 624 (by decide +kernel) (by decide +kernel)
theorem tb_625 : (Jvm.Cond.fieldLink "GasLedgerModel" (44 : Nat) "GasLedgerModel" "value" "[I") ∈ cx_tb := gx_tb 625 (by decide +kernel) (by decide +kernel)
theorem tb_626 : (Jvm.Cond.fieldLink "GasLedgerModel" (47 : Nat) "GasLedgerModel" "input" "[I") ∈ cx_tb := gx_tb 626 (by decide +kernel) (by decide +kernel)
theorem tb_627 : (Jvm.Cond.fieldLink "GasLedgerModel" (50 : Nat) "GasLedgerModel" "gas" "[I") ∈ cx_tb := gx_tb 627 (by decide +kernel) (by decide +kernel)
theorem tb_628 : (Jvm.Cond.fieldLink "GasLedgerModel" (53 : Nat) "GasLedgerModel" "size" "[I") ∈ cx_tb := gx_tb 628 (by decide +kernel) (by decide +kernel)
theorem tb_629 : (Jvm.Cond.fieldLink "GasLedgerModel" (56 : Nat) "GasLedgerModel" "stack" "[I") ∈ cx_tb := gx_tb 629 (by decide +kernel) (by decide +kernel)
theorem tb_630 : (Jvm.Cond.fieldLink "GasLedgerModel" (59 : Nat) "GasLedgerModel" "copies" "[I") ∈ cx_tb := gx_tb 630 (by decide +kernel) (by decide +kernel)
theorem tb_631 : (Jvm.Cond.fieldLink "GasLedgerModel" (62 : Nat) "GasLedgerModel" "refunds" "[I") ∈ cx_tb := gx_tb 631 (by decide +kernel) (by decide +kernel)
theorem tb_632 : (Jvm.Cond.fieldLink "GasLedgerModel" (65 : Nat) "GasLedgerModel" "logsThen" "[I") ∈ cx_tb := gx_tb 632 (by decide +kernel) (by decide +kernel)
theorem tb_633 : (Jvm.Cond.fieldLink "GasLedgerModel" (121 : Nat) "GasLedgerModel" "left" "I") ∈ cx_tb := gx_tb 633 (by decide +kernel) (by decide +kernel)
theorem tb_634 : (Jvm.Cond.fieldLink "GasLedgerModel" (124 : Nat) "GasLedgerModel" "status" "I") ∈ cx_tb := gx_tb 634 (by decide +kernel) (by decide +kernel)
theorem tb_635 : (Jvm.Cond.fieldLink "GasLedgerModel" (127 : Nat) "GasLedgerModel" "output" "I") ∈ cx_tb := gx_tb 635 (by decide +kernel) (by decide +kernel)
theorem tb_636 : (Jvm.Cond.fieldLink "GasLedgerModel" (68 : Nat) "GasLedgerModel" "node" "[I") ∈ cx_tb := gx_tb 636 (by decide +kernel) (by decide +kernel)
theorem tb_637 : (Jvm.Cond.fieldLink "GasLedgerModel" (71 : Nat) "GasLedgerModel" "has" "[Z") ∈ cx_tb := gx_tb 637 (by decide +kernel) (by decide +kernel)
theorem tb_638 : (Jvm.Cond.fieldLink "GasLedgerModel" (75 : Nat) "GasLedgerModel" "worth" "[I") ∈ cx_tb := gx_tb 638 (by decide +kernel) (by decide +kernel)
theorem tb_639 : (Jvm.Cond.fieldLink "GasLedgerModel" (78 : Nat) "GasLedgerModel" "values" "[I") ∈ cx_tb := gx_tb 639 (by decide +kernel) (by decide +kernel)
theorem tb_718 : (Jvm.Cond.superclass "GasLedgerModel" "java/lang/Object") ∈ cx_tb := gx_tb 718 (by decide +kernel) (by decide +kernel)
theorem tb_719 : (Jvm.Cond.arrayClass Jvm.ClassFile.FieldType.boolean) ∈ cx_tb := gx_tb 719 (by decide +kernel) (by decide +kernel)
theorem tb_720 : (Jvm.Cond.methodLink "GasLedgerLaw" (17 : Nat) ({ cls := "GasLedgerModel", name := "fund", desc := "(II)Z" } : Jvm.MethodName)) ∈ cx_tb := gx_tb 720 (by decide +kernel) (by decide +kernel)
theorem tb_721 : (Jvm.Cond.instanceMethod ({ cls := "GasLedgerModel", name := "fund", desc := "(II)Z" } : Jvm.MethodName)) ∈ cx_tb := gx_tb 721 (by decide +kernel) (by decide +kernel)
theorem tb_722 : (Jvm.Cond.selects "GasLedgerModel" ({ cls := "GasLedgerModel", name := "fund", desc := "(II)Z" } : Jvm.MethodName) ({ cls := "GasLedgerModel", name := "fund", desc := "(II)Z" } : Jvm.MethodName)) ∈ cx_tb := gx_tb 722 (by decide +kernel) (by decide +kernel)
theorem tb_724 : (Jvm.Cond.methodLink "GasLedgerModel" (81 : Nat) ({ cls := "GasLedgerModel", name := "in", desc := "(II)Z" } : Jvm.MethodName)) ∈ cx_tb := gx_tb 724 (by decide +kernel) (by decide +kernel)
theorem tb_725 : (Jvm.Cond.static ({ cls := "GasLedgerModel", name := "in", desc := "(II)Z" } : Jvm.MethodName)) ∈ cx_tb := gx_tb 725 (by decide +kernel) (by decide +kernel)
theorem tb_727 : (Jvm.Cond.constant "GasLedgerModel" (85 : Nat) (1000001 : Int32)) ∈ cx_tb := gx_tb 727 (by decide +kernel) (by decide +kernel)
theorem tb_728 : (Jvm.Cond.methodLink "GasLedgerLaw" (21 : Nat) ({ cls := "GasLedgerModel", name := "code", desc := "(II)Z" } : Jvm.MethodName)) ∈ cx_tb := gx_tb 728 (by decide +kernel) (by decide +kernel)
theorem tb_729 : (Jvm.Cond.instanceMethod ({ cls := "GasLedgerModel", name := "code", desc := "(II)Z" } : Jvm.MethodName)) ∈ cx_tb := gx_tb 729 (by decide +kernel) (by decide +kernel)
theorem tb_730 : (Jvm.Cond.selects "GasLedgerModel" ({ cls := "GasLedgerModel", name := "code", desc := "(II)Z" } : Jvm.MethodName) ({ cls := "GasLedgerModel", name := "code", desc := "(II)Z" } : Jvm.MethodName)) ∈ cx_tb := gx_tb 730 (by decide +kernel) (by decide +kernel)
theorem tb_732 : (Jvm.Cond.methodLink "GasLedgerLaw" (26 : Nat) ({ cls := "GasLedgerModel", name := "preset", desc := "(III)Z" } : Jvm.MethodName)) ∈ cx_tb := gx_tb 732 (by decide +kernel) (by decide +kernel)
theorem tb_733 : (Jvm.Cond.instanceMethod ({ cls := "GasLedgerModel", name := "preset", desc := "(III)Z" } : Jvm.MethodName)) ∈ cx_tb := gx_tb 733 (by decide +kernel) (by decide +kernel)
theorem tb_734 : (Jvm.Cond.selects "GasLedgerModel" ({ cls := "GasLedgerModel", name := "preset", desc := "(III)Z" } : Jvm.MethodName) ({ cls := "GasLedgerModel", name := "preset", desc := "(III)Z" } : Jvm.MethodName)) ∈ cx_tb := gx_tb 734 (by decide +kernel) (by decide +kernel)
theorem tb_736 : (Jvm.Cond.methodLink "GasLedgerLaw" (67 : Nat) ({ cls := "GasLedgerModel", name := "root", desc := "()I" } : Jvm.MethodName)) ∈ cx_tb := gx_tb 736 (by decide +kernel) (by decide +kernel)
theorem tb_737 : (Jvm.Cond.instanceMethod ({ cls := "GasLedgerModel", name := "root", desc := "()I" } : Jvm.MethodName)) ∈ cx_tb := gx_tb 737 (by decide +kernel) (by decide +kernel)
theorem tb_738 : (Jvm.Cond.selects "GasLedgerModel" ({ cls := "GasLedgerModel", name := "root", desc := "()I" } : Jvm.MethodName) ({ cls := "GasLedgerModel", name := "root", desc := "()I" } : Jvm.MethodName)) ∈ cx_tb := gx_tb 738 (by decide +kernel) (by decide +kernel)
theorem tb_740 : (Jvm.Cond.methodLink "GasLedgerModel" (105 : Nat) ({ cls := "GasLedgerModel", name := "valueOf", desc := "(I)I" } : Jvm.MethodName)) ∈ cx_tb := gx_tb 740 (by decide +kernel) (by decide +kernel)
theorem tb_742 : (Jvm.Cond.instanceMethod ({ cls := "GasLedgerModel", name := "valueOf", desc := "(I)I" } : Jvm.MethodName)) ∈ cx_tb := gx_tb 742 (by decide +kernel) (by decide +kernel)
theorem tb_744 : (Jvm.Cond.methodLink "GasLedgerModel" (94 : Nat) ({ cls := "GasLedgerModel", name := "mix", desc := "(II)I" } : Jvm.MethodName)) ∈ cx_tb := gx_tb 744 (by decide +kernel) (by decide +kernel)
theorem tb_745 : (Jvm.Cond.static ({ cls := "GasLedgerModel", name := "mix", desc := "(II)I" } : Jvm.MethodName)) ∈ cx_tb := gx_tb 745 (by decide +kernel) (by decide +kernel)
theorem tb_747 : (Jvm.Cond.constant "GasLedgerModel" (89 : Nat) (668265263 : Int32)) ∈ cx_tb := gx_tb 747 (by decide +kernel) (by decide +kernel)
theorem tb_748 : (Jvm.Cond.methodLink "GasLedgerModel" (102 : Nat) ({ cls := "GasLedgerModel", name := "slotsRoot", desc := "(I)I" } : Jvm.MethodName)) ∈ cx_tb := gx_tb 748 (by decide +kernel) (by decide +kernel)
theorem tb_750 : (Jvm.Cond.instanceMethod ({ cls := "GasLedgerModel", name := "slotsRoot", desc := "(I)I" } : Jvm.MethodName)) ∈ cx_tb := gx_tb 750 (by decide +kernel) (by decide +kernel)
theorem tb_752 : (Jvm.Cond.methodLink "GasLedgerModel" (98 : Nat) ({ cls := "GasLedgerModel", name := "map", desc := "(I)I" } : Jvm.MethodName)) ∈ cx_tb := gx_tb 752 (by decide +kernel) (by decide +kernel)
theorem tb_754 : (Jvm.Cond.instanceMethod ({ cls := "GasLedgerModel", name := "map", desc := "(I)I" } : Jvm.MethodName)) ∈ cx_tb := gx_tb 754 (by decide +kernel) (by decide +kernel)
theorem tb_756 : (Jvm.Cond.methodLink "GasLedgerModel" (90 : Nat) ({ cls := "GasLedgerModel", name := "part", desc := "(III)I" } : Jvm.MethodName)) ∈ cx_tb := gx_tb 756 (by decide +kernel) (by decide +kernel)
theorem tb_758 : (Jvm.Cond.instanceMethod ({ cls := "GasLedgerModel", name := "part", desc := "(III)I" } : Jvm.MethodName)) ∈ cx_tb := gx_tb 758 (by decide +kernel) (by decide +kernel)
theorem tb_760 : (Jvm.Cond.methodLink "GasLedgerModel" (108 : Nat) ({ cls := "GasLedgerModel", name := "empty", desc := "(I)Z" } : Jvm.MethodName)) ∈ cx_tb := gx_tb 760 (by decide +kernel) (by decide +kernel)
theorem tb_762 : (Jvm.Cond.instanceMethod ({ cls := "GasLedgerModel", name := "empty", desc := "(I)Z" } : Jvm.MethodName)) ∈ cx_tb := gx_tb 762 (by decide +kernel) (by decide +kernel)
theorem tb_764 : (Jvm.Cond.methodLink "GasLedgerLaw" (40 : Nat) ({ cls := "GasLedgerModel", name := "terms", desc := "(III)V" } : Jvm.MethodName)) ∈ cx_tb := gx_tb 764 (by decide +kernel) (by decide +kernel)
theorem tb_765 : (Jvm.Cond.instanceMethod ({ cls := "GasLedgerModel", name := "terms", desc := "(III)V" } : Jvm.MethodName)) ∈ cx_tb := gx_tb 765 (by decide +kernel) (by decide +kernel)
theorem tb_766 : (Jvm.Cond.selects "GasLedgerModel" ({ cls := "GasLedgerModel", name := "terms", desc := "(III)V" } : Jvm.MethodName) ({ cls := "GasLedgerModel", name := "terms", desc := "(III)V" } : Jvm.MethodName)) ∈ cx_tb := gx_tb 766 (by decide +kernel) (by decide +kernel)
theorem tb_768 : (Jvm.Cond.methodLink "GasLedgerLaw" (35 : Nat) ({ cls := "GasLedgerModel", name := "send", desc := "(IIII)I" } : Jvm.MethodName)) ∈ cx_tb := gx_tb 768 (by decide +kernel) (by decide +kernel)
theorem tb_769 : (Jvm.Cond.instanceMethod ({ cls := "GasLedgerModel", name := "send", desc := "(IIII)I" } : Jvm.MethodName)) ∈ cx_tb := gx_tb 769 (by decide +kernel) (by decide +kernel)
theorem tb_770 : (Jvm.Cond.selects "GasLedgerModel" ({ cls := "GasLedgerModel", name := "send", desc := "(IIII)I" } : Jvm.MethodName) ({ cls := "GasLedgerModel", name := "send", desc := "(IIII)I" } : Jvm.MethodName)) ∈ cx_tb := gx_tb 770 (by decide +kernel) (by decide +kernel)
theorem tb_772 : (Jvm.Cond.methodLink "GasLedgerModel" (188 : Nat) ({ cls := "GasLedgerModel", name := "transact", desc := "(IIIIIII)I" } : Jvm.MethodName)) ∈ cx_tb := gx_tb 772 (by decide +kernel) (by decide +kernel)
theorem tb_774 : (Jvm.Cond.instanceMethod ({ cls := "GasLedgerModel", name := "transact", desc := "(IIIIIII)I" } : Jvm.MethodName)) ∈ cx_tb := gx_tb 774 (by decide +kernel) (by decide +kernel)
theorem tb_776 : (Jvm.Cond.methodLink "GasLedgerModel" (181 : Nat) ({ cls := "GasLedgerModel", name := "enter", desc := "(IIIIII)V" } : Jvm.MethodName)) ∈ cx_tb := gx_tb 776 (by decide +kernel) (by decide +kernel)
theorem tb_778 : (Jvm.Cond.instanceMethod ({ cls := "GasLedgerModel", name := "enter", desc := "(IIIIII)V" } : Jvm.MethodName)) ∈ cx_tb := gx_tb 778 (by decide +kernel) (by decide +kernel)
theorem tb_780 : (Jvm.Cond.methodLink "GasLedgerModel" (177 : Nat) ({ cls := "GasLedgerModel", name := "give", desc := "(III)V" } : Jvm.MethodName)) ∈ cx_tb := gx_tb 780 (by decide +kernel) (by decide +kernel)
theorem tb_782 : (Jvm.Cond.instanceMethod ({ cls := "GasLedgerModel", name := "give", desc := "(III)V" } : Jvm.MethodName)) ∈ cx_tb := gx_tb 782 (by decide +kernel) (by decide +kernel)
theorem tb_784 : (Jvm.Cond.constant "GasLedgerModel" (202 : Nat) (100000 : Int32)) ∈ cx_tb := gx_tb 784 (by decide +kernel) (by decide +kernel)
theorem tb_785 : (Jvm.Cond.methodLink "GasLedgerModel" (203 : Nat) ({ cls := "GasLedgerModel", name := "step", desc := "()V" } : Jvm.MethodName)) ∈ cx_tb := gx_tb 785 (by decide +kernel) (by decide +kernel)
theorem tb_787 : (Jvm.Cond.instanceMethod ({ cls := "GasLedgerModel", name := "step", desc := "()V" } : Jvm.MethodName)) ∈ cx_tb := gx_tb 787 (by decide +kernel) (by decide +kernel)
theorem tb_789 : (Jvm.Cond.methodLink "GasLedgerModel" (137 : Nat) ({ cls := "GasLedgerModel", name := "leave", desc := "(ZII)V" } : Jvm.MethodName)) ∈ cx_tb := gx_tb 789 (by decide +kernel) (by decide +kernel)
theorem tb_791 : (Jvm.Cond.instanceMethod ({ cls := "GasLedgerModel", name := "leave", desc := "(ZII)V" } : Jvm.MethodName)) ∈ cx_tb := gx_tb 791 (by decide +kernel) (by decide +kernel)
theorem tb_793 : (Jvm.Cond.methodLink "GasLedgerModel" (130 : Nat) ({ cls := "GasLedgerModel", name := "push", desc := "(I)V" } : Jvm.MethodName)) ∈ cx_tb := gx_tb 793 (by decide +kernel) (by decide +kernel)
theorem tb_795 : (Jvm.Cond.instanceMethod ({ cls := "GasLedgerModel", name := "push", desc := "(I)V" } : Jvm.MethodName)) ∈ cx_tb := gx_tb 795 (by decide +kernel) (by decide +kernel)
theorem tb_797 : (Jvm.Cond.methodLink "GasLedgerModel" (141 : Nat) ({ cls := "GasLedgerModel", name := "pops", desc := "(I)I" } : Jvm.MethodName)) ∈ cx_tb := gx_tb 797 (by decide +kernel) (by decide +kernel)
theorem tb_798 : (Jvm.Cond.static ({ cls := "GasLedgerModel", name := "pops", desc := "(I)I" } : Jvm.MethodName)) ∈ cx_tb := gx_tb 798 (by decide +kernel) (by decide +kernel)
theorem tb_800 : (Jvm.Cond.methodLink "GasLedgerModel" (144 : Nat) ({ cls := "GasLedgerModel", name := "pushes", desc := "(I)I" } : Jvm.MethodName)) ∈ cx_tb := gx_tb 800 (by decide +kernel) (by decide +kernel)
theorem tb_801 : (Jvm.Cond.static ({ cls := "GasLedgerModel", name := "pushes", desc := "(I)I" } : Jvm.MethodName)) ∈ cx_tb := gx_tb 801 (by decide +kernel) (by decide +kernel)
theorem tb_803 : (Jvm.Cond.methodLink "GasLedgerModel" (147 : Nat) ({ cls := "GasLedgerModel", name := "cost", desc := "(I)I" } : Jvm.MethodName)) ∈ cx_tb := gx_tb 803 (by decide +kernel) (by decide +kernel)
theorem tb_805 : (Jvm.Cond.instanceMethod ({ cls := "GasLedgerModel", name := "cost", desc := "(I)I" } : Jvm.MethodName)) ∈ cx_tb := gx_tb 805 (by decide +kernel) (by decide +kernel)
theorem tb_807 : (Jvm.Cond.methodLink "GasLedgerModel" (134 : Nat) ({ cls := "GasLedgerModel", name := "peek", desc := "(I)I" } : Jvm.MethodName)) ∈ cx_tb := gx_tb 807 (by decide +kernel) (by decide +kernel)
theorem tb_809 : (Jvm.Cond.instanceMethod ({ cls := "GasLedgerModel", name := "peek", desc := "(I)I" } : Jvm.MethodName)) ∈ cx_tb := gx_tb 809 (by decide +kernel) (by decide +kernel)
theorem tb_811 : (Jvm.Cond.methodLink "GasLedgerModel" (150 : Nat) ({ cls := "GasLedgerModel", name := "fails", desc := "(II)Z" } : Jvm.MethodName)) ∈ cx_tb := gx_tb 811 (by decide +kernel) (by decide +kernel)
theorem tb_813 : (Jvm.Cond.instanceMethod ({ cls := "GasLedgerModel", name := "fails", desc := "(II)Z" } : Jvm.MethodName)) ∈ cx_tb := gx_tb 813 (by decide +kernel) (by decide +kernel)
theorem tb_815 : (Jvm.Cond.methodLink "GasLedgerModel" (153 : Nat) ({ cls := "GasLedgerModel", name := "shuffle", desc := "(II)V" } : Jvm.MethodName)) ∈ cx_tb := gx_tb 815 (by decide +kernel) (by decide +kernel)
theorem tb_817 : (Jvm.Cond.instanceMethod ({ cls := "GasLedgerModel", name := "shuffle", desc := "(II)V" } : Jvm.MethodName)) ∈ cx_tb := gx_tb 817 (by decide +kernel) (by decide +kernel)
theorem tb_819 : (Jvm.Cond.methodLink "GasLedgerModel" (160 : Nat) ({ cls := "GasLedgerModel", name := "pop", desc := "()I" } : Jvm.MethodName)) ∈ cx_tb := gx_tb 819 (by decide +kernel) (by decide +kernel)
theorem tb_821 : (Jvm.Cond.instanceMethod ({ cls := "GasLedgerModel", name := "pop", desc := "()I" } : Jvm.MethodName)) ∈ cx_tb := gx_tb 821 (by decide +kernel) (by decide +kernel)
theorem tb_823 : (Jvm.Cond.methodLink "GasLedgerModel" (157 : Nat) ({ cls := "GasLedgerModel", name := "reckon", desc := "(I)V" } : Jvm.MethodName)) ∈ cx_tb := gx_tb 823 (by decide +kernel) (by decide +kernel)
theorem tb_825 : (Jvm.Cond.instanceMethod ({ cls := "GasLedgerModel", name := "reckon", desc := "(I)V" } : Jvm.MethodName)) ∈ cx_tb := gx_tb 825 (by decide +kernel) (by decide +kernel)
theorem tb_827 : (Jvm.Cond.methodLink "GasLedgerModel" (164 : Nat) ({ cls := "GasLedgerModel", name := "hold", desc := "(I)V" } : Jvm.MethodName)) ∈ cx_tb := gx_tb 827 (by decide +kernel) (by decide +kernel)
theorem tb_829 : (Jvm.Cond.instanceMethod ({ cls := "GasLedgerModel", name := "hold", desc := "(I)V" } : Jvm.MethodName)) ∈ cx_tb := gx_tb 829 (by decide +kernel) (by decide +kernel)
theorem tb_831 : (Jvm.Cond.methodLink "GasLedgerModel" (167 : Nat) ({ cls := "GasLedgerModel", name := "act", desc := "(I)V" } : Jvm.MethodName)) ∈ cx_tb := gx_tb 831 (by decide +kernel) (by decide +kernel)
theorem tb_833 : (Jvm.Cond.instanceMethod ({ cls := "GasLedgerModel", name := "act", desc := "(I)V" } : Jvm.MethodName)) ∈ cx_tb := gx_tb 833 (by decide +kernel) (by decide +kernel)
theorem tb_835 : (Jvm.Cond.methodLink "GasLedgerModel" (170 : Nat) ({ cls := "GasLedgerModel", name := "call", desc := "(Z)V" } : Jvm.MethodName)) ∈ cx_tb := gx_tb 835 (by decide +kernel) (by decide +kernel)
theorem tb_837 : (Jvm.Cond.instanceMethod ({ cls := "GasLedgerModel", name := "call", desc := "(Z)V" } : Jvm.MethodName)) ∈ cx_tb := gx_tb 837 (by decide +kernel) (by decide +kernel)
theorem tb_839 : (Jvm.Cond.methodLink "GasLedgerModel" (174 : Nat) ({ cls := "GasLedgerModel", name := "create", desc := "()V" } : Jvm.MethodName)) ∈ cx_tb := gx_tb 839 (by decide +kernel) (by decide +kernel)
theorem tb_841 : (Jvm.Cond.instanceMethod ({ cls := "GasLedgerModel", name := "create", desc := "()V" } : Jvm.MethodName)) ∈ cx_tb := gx_tb 841 (by decide +kernel) (by decide +kernel)
theorem tb_843 : (Jvm.Cond.methodLink "GasLedgerModel" (209 : Nat) ({ cls := "GasLedgerModel", name := "wipe", desc := "(I)V" } : Jvm.MethodName)) ∈ cx_tb := gx_tb 843 (by decide +kernel) (by decide +kernel)
theorem tb_845 : (Jvm.Cond.instanceMethod ({ cls := "GasLedgerModel", name := "wipe", desc := "(I)V" } : Jvm.MethodName)) ∈ cx_tb := gx_tb 845 (by decide +kernel) (by decide +kernel)
theorem tb_847 : (Jvm.Cond.methodLink "GasLedgerLaw" (44 : Nat) ({ cls := "GasLedgerModel", name := "pay", desc := "(IIII)I" } : Jvm.MethodName)) ∈ cx_tb := gx_tb 847 (by decide +kernel) (by decide +kernel)
theorem tb_848 : (Jvm.Cond.instanceMethod ({ cls := "GasLedgerModel", name := "pay", desc := "(IIII)I" } : Jvm.MethodName)) ∈ cx_tb := gx_tb 848 (by decide +kernel) (by decide +kernel)
theorem tb_849 : (Jvm.Cond.selects "GasLedgerModel" ({ cls := "GasLedgerModel", name := "pay", desc := "(IIII)I" } : Jvm.MethodName) ({ cls := "GasLedgerModel", name := "pay", desc := "(IIII)I" } : Jvm.MethodName)) ∈ cx_tb := gx_tb 849 (by decide +kernel) (by decide +kernel)
theorem tb_851 : (Jvm.Cond.methodLink "GasLedgerModel" (192 : Nat) ({ cls := "GasLedgerModel", name := "terms", desc := "(III)V" } : Jvm.MethodName)) ∈ cx_tb := gx_tb 851 (by decide +kernel) (by decide +kernel)
theorem tb_852 : (Jvm.Cond.methodLink "GasLedgerLaw" (30 : Nat) ({ cls := "GasLedgerModel", name := "begin", desc := "(II)Z" } : Jvm.MethodName)) ∈ cx_tb := gx_tb 852 (by decide +kernel) (by decide +kernel)
theorem tb_853 : (Jvm.Cond.instanceMethod ({ cls := "GasLedgerModel", name := "begin", desc := "(II)Z" } : Jvm.MethodName)) ∈ cx_tb := gx_tb 853 (by decide +kernel) (by decide +kernel)
theorem tb_854 : (Jvm.Cond.selects "GasLedgerModel" ({ cls := "GasLedgerModel", name := "begin", desc := "(II)Z" } : Jvm.MethodName) ({ cls := "GasLedgerModel", name := "begin", desc := "(II)Z" } : Jvm.MethodName)) ∈ cx_tb := gx_tb 854 (by decide +kernel) (by decide +kernel)
theorem tb_856 : (Jvm.Cond.methodLink "GasLedgerLaw" (49 : Nat) ({ cls := "GasLedgerModel", name := "seal", desc := "(I)I" } : Jvm.MethodName)) ∈ cx_tb := gx_tb 856 (by decide +kernel) (by decide +kernel)
theorem tb_857 : (Jvm.Cond.instanceMethod ({ cls := "GasLedgerModel", name := "seal", desc := "(I)I" } : Jvm.MethodName)) ∈ cx_tb := gx_tb 857 (by decide +kernel) (by decide +kernel)
theorem tb_858 : (Jvm.Cond.selects "GasLedgerModel" ({ cls := "GasLedgerModel", name := "seal", desc := "(I)I" } : Jvm.MethodName) ({ cls := "GasLedgerModel", name := "seal", desc := "(I)I" } : Jvm.MethodName)) ∈ cx_tb := gx_tb 858 (by decide +kernel) (by decide +kernel)
theorem tb_860 : (Jvm.Cond.methodLink "GasLedgerLaw" (54 : Nat) ({ cls := "GasLedgerModel", name := "look", desc := "(II)I" } : Jvm.MethodName)) ∈ cx_tb := gx_tb 860 (by decide +kernel) (by decide +kernel)
theorem tb_861 : (Jvm.Cond.instanceMethod ({ cls := "GasLedgerModel", name := "look", desc := "(II)I" } : Jvm.MethodName)) ∈ cx_tb := gx_tb 861 (by decide +kernel) (by decide +kernel)
theorem tb_862 : (Jvm.Cond.selects "GasLedgerModel" ({ cls := "GasLedgerModel", name := "look", desc := "(II)I" } : Jvm.MethodName) ({ cls := "GasLedgerModel", name := "look", desc := "(II)I" } : Jvm.MethodName)) ∈ cx_tb := gx_tb 862 (by decide +kernel) (by decide +kernel)
theorem tb_864 : (Jvm.Cond.methodLink "GasLedgerLaw" (58 : Nat) ({ cls := "GasLedgerModel", name := "slot", desc := "(II)I" } : Jvm.MethodName)) ∈ cx_tb := gx_tb 864 (by decide +kernel) (by decide +kernel)
theorem tb_865 : (Jvm.Cond.instanceMethod ({ cls := "GasLedgerModel", name := "slot", desc := "(II)I" } : Jvm.MethodName)) ∈ cx_tb := gx_tb 865 (by decide +kernel) (by decide +kernel)
theorem tb_866 : (Jvm.Cond.selects "GasLedgerModel" ({ cls := "GasLedgerModel", name := "slot", desc := "(II)I" } : Jvm.MethodName) ({ cls := "GasLedgerModel", name := "slot", desc := "(II)I" } : Jvm.MethodName)) ∈ cx_tb := gx_tb 866 (by decide +kernel) (by decide +kernel)
theorem tb_868 : (Jvm.Cond.methodLink "GasLedgerLaw" (62 : Nat) ({ cls := "GasLedgerModel", name := "word", desc := "(II)I" } : Jvm.MethodName)) ∈ cx_tb := gx_tb 868 (by decide +kernel) (by decide +kernel)
theorem tb_869 : (Jvm.Cond.instanceMethod ({ cls := "GasLedgerModel", name := "word", desc := "(II)I" } : Jvm.MethodName)) ∈ cx_tb := gx_tb 869 (by decide +kernel) (by decide +kernel)
theorem tb_870 : (Jvm.Cond.selects "GasLedgerModel" ({ cls := "GasLedgerModel", name := "word", desc := "(II)I" } : Jvm.MethodName) ({ cls := "GasLedgerModel", name := "word", desc := "(II)I" } : Jvm.MethodName)) ∈ cx_tb := gx_tb 870 (by decide +kernel) (by decide +kernel)
theorem tb_872 : (Jvm.Cond.methodLink "GasLedgerLaw" (71 : Nat) ({ cls := "GasLedgerModel", name := "block", desc := "(I)I" } : Jvm.MethodName)) ∈ cx_tb := gx_tb 872 (by decide +kernel) (by decide +kernel)
theorem tb_873 : (Jvm.Cond.instanceMethod ({ cls := "GasLedgerModel", name := "block", desc := "(I)I" } : Jvm.MethodName)) ∈ cx_tb := gx_tb 873 (by decide +kernel) (by decide +kernel)
theorem tb_874 : (Jvm.Cond.selects "GasLedgerModel" ({ cls := "GasLedgerModel", name := "block", desc := "(I)I" } : Jvm.MethodName) ({ cls := "GasLedgerModel", name := "block", desc := "(I)I" } : Jvm.MethodName)) ∈ cx_tb := gx_tb 874 (by decide +kernel) (by decide +kernel)
theorem tb_876 : (Jvm.Cond.methodLink "GasLedgerModel" (227 : Nat) ({ cls := "GasLedgerModel", name := "bloom", desc := "()I" } : Jvm.MethodName)) ∈ cx_tb := gx_tb 876 (by decide +kernel) (by decide +kernel)
theorem tb_878 : (Jvm.Cond.instanceMethod ({ cls := "GasLedgerModel", name := "bloom", desc := "()I" } : Jvm.MethodName)) ∈ cx_tb := gx_tb 878 (by decide +kernel) (by decide +kernel)
theorem tb_880 : (Jvm.Cond.methodLink "GasLedgerLaw" (75 : Nat) ({ cls := "GasLedgerModel", name := "receipt", desc := "(II)I" } : Jvm.MethodName)) ∈ cx_tb := gx_tb 880 (by decide +kernel) (by decide +kernel)
theorem tb_881 : (Jvm.Cond.instanceMethod ({ cls := "GasLedgerModel", name := "receipt", desc := "(II)I" } : Jvm.MethodName)) ∈ cx_tb := gx_tb 881 (by decide +kernel) (by decide +kernel)
theorem tb_882 : (Jvm.Cond.selects "GasLedgerModel" ({ cls := "GasLedgerModel", name := "receipt", desc := "(II)I" } : Jvm.MethodName) ({ cls := "GasLedgerModel", name := "receipt", desc := "(II)I" } : Jvm.MethodName)) ∈ cx_tb := gx_tb 882 (by decide +kernel) (by decide +kernel)
theorem tb_884 : (Jvm.Cond.methodLink "GasLedgerLaw" (79 : Nat) ({ cls := "GasLedgerModel", name := "log", desc := "(II)I" } : Jvm.MethodName)) ∈ cx_tb := gx_tb 884 (by decide +kernel) (by decide +kernel)
theorem tb_885 : (Jvm.Cond.instanceMethod ({ cls := "GasLedgerModel", name := "log", desc := "(II)I" } : Jvm.MethodName)) ∈ cx_tb := gx_tb 885 (by decide +kernel) (by decide +kernel)
theorem tb_886 : (Jvm.Cond.selects "GasLedgerModel" ({ cls := "GasLedgerModel", name := "log", desc := "(II)I" } : Jvm.MethodName) ({ cls := "GasLedgerModel", name := "log", desc := "(II)I" } : Jvm.MethodName)) ∈ cx_tb := gx_tb 886 (by decide +kernel) (by decide +kernel)
theorem tb_888 : (Jvm.Cond.methodLink "GasLedgerLaw" (84 : Nat) ({ cls := "GasLedgerModel", name := "total", desc := "()J" } : Jvm.MethodName)) ∈ cx_tb := gx_tb 888 (by decide +kernel) (by decide +kernel)
theorem tb_889 : (Jvm.Cond.instanceMethod ({ cls := "GasLedgerModel", name := "total", desc := "()J" } : Jvm.MethodName)) ∈ cx_tb := gx_tb 889 (by decide +kernel) (by decide +kernel)
theorem tb_890 : (Jvm.Cond.selects "GasLedgerModel" ({ cls := "GasLedgerModel", name := "total", desc := "()J" } : Jvm.MethodName) ({ cls := "GasLedgerModel", name := "total", desc := "()J" } : Jvm.MethodName)) ∈ cx_tb := gx_tb 890 (by decide +kernel) (by decide +kernel)
end
section
theorem d_Led_init_0 : decode b_Led_init 0 = .ok (.aload_n 0, 1) := by decide +kernel
theorem d_Led_init_1 : decode b_Led_init 1 = .ok (.invokespecial 1, 3) := by decide +kernel
theorem d_Led_init_4 : decode b_Led_init 4 = .ok (.aload_n 0, 1) := by decide +kernel
theorem d_Led_init_5 : decode b_Led_init 5 = .ok (.new 7, 3) := by decide +kernel
theorem d_Led_init_8 : decode b_Led_init 8 = .ok (.dup, 1) := by decide +kernel
theorem d_Led_init_9 : decode b_Led_init 9 = .ok (.invokespecial 9, 3) := by decide +kernel
theorem d_Led_init_12 : decode b_Led_init 12 = .ok (.putfield 10, 3) := by decide +kernel
theorem d_Led_init_15 : decode b_Led_init 15 = .ok (.aload_n 0, 1) := by decide +kernel
theorem d_Led_init_16 : decode b_Led_init 16 = .ok (.new 16, 3) := by decide +kernel
theorem d_Led_init_19 : decode b_Led_init 19 = .ok (.dup, 1) := by decide +kernel
theorem d_Led_init_20 : decode b_Led_init 20 = .ok (.invokespecial 18, 3) := by decide +kernel
theorem d_Led_init_23 : decode b_Led_init 23 = .ok (.putfield 19, 3) := by decide +kernel
theorem d_Led_init_26 : decode b_Led_init 26 = .ok (.aload_n 0, 1) := by decide +kernel
theorem d_Led_init_27 : decode b_Led_init 27 = .ok (.new 23, 3) := by decide +kernel
theorem d_Led_init_30 : decode b_Led_init 30 = .ok (.dup, 1) := by decide +kernel
theorem d_Led_init_31 : decode b_Led_init 31 = .ok (.invokespecial 25, 3) := by decide +kernel
theorem d_Led_init_34 : decode b_Led_init 34 = .ok (.putfield 26, 3) := by decide +kernel
theorem d_Led_init_37 : decode b_Led_init 37 = .ok (.aload_n 0, 1) := by decide +kernel
theorem d_Led_init_38 : decode b_Led_init 38 = .ok (.sipush 200, 3) := by decide +kernel
theorem d_Led_init_41 : decode b_Led_init 41 = .ok (.putfield 30, 3) := by decide +kernel
theorem d_Led_init_44 : decode b_Led_init 44 = .ok (.aload_n 0, 1) := by decide +kernel
theorem d_Led_init_45 : decode b_Led_init 45 = .ok (.iconst 1, 1) := by decide +kernel
theorem d_Led_init_46 : decode b_Led_init 46 = .ok (.putfield 34, 3) := by decide +kernel
theorem d_Led_init_49 : decode b_Led_init 49 = .ok (.return_, 1) := by decide +kernel
theorem d_Led_fund_0 : decode b_Led_fund 0 = .ok (.aload_n 0, 1) := by decide +kernel
theorem d_Led_fund_1 : decode b_Led_fund 1 = .ok (.getfield 37, 3) := by decide +kernel
theorem d_Led_fund_4 : decode b_Led_fund 4 = .ok (.ifCond .gt 20, 3) := by decide +kernel
theorem d_Led_fund_7 : decode b_Led_fund 7 = .ok (.iload_n 1, 1) := by decide +kernel
theorem d_Led_fund_8 : decode b_Led_fund 8 = .ok (.invokestatic 40, 3) := by decide +kernel
theorem d_Led_fund_11 : decode b_Led_fund 11 = .ok (.ifCond .eq 13, 3) := by decide +kernel
theorem d_Led_fund_14 : decode b_Led_fund 14 = .ok (.iload_n 2, 1) := by decide +kernel
theorem d_Led_fund_15 : decode b_Led_fund 15 = .ok (.ifCond .lt 9, 3) := by decide +kernel
theorem d_Led_fund_18 : decode b_Led_fund 18 = .ok (.iload_n 2, 1) := by decide +kernel
theorem d_Led_fund_19 : decode b_Led_fund 19 = .ok (.ldc 44, 2) := by decide +kernel
theorem d_Led_fund_21 : decode b_Led_fund 21 = .ok (.if_icmp .le 5, 3) := by decide +kernel
theorem d_Led_fund_24 : decode b_Led_fund 24 = .ok (.iconst 0, 1) := by decide +kernel
theorem d_Led_fund_25 : decode b_Led_fund 25 = .ok (.ireturn, 1) := by decide +kernel
theorem d_Led_fund_26 : decode b_Led_fund 26 = .ok (.aload_n 0, 1) := by decide +kernel
theorem d_Led_fund_27 : decode b_Led_fund 27 = .ok (.getfield 10, 3) := by decide +kernel
theorem d_Led_fund_30 : decode b_Led_fund 30 = .ok (.getfield 45, 3) := by decide +kernel
theorem d_Led_fund_33 : decode b_Led_fund 33 = .ok (.getfield 48, 3) := by decide +kernel
theorem d_Led_fund_36 : decode b_Led_fund 36 = .ok (.iload_n 1, 1) := by decide +kernel
theorem d_Led_fund_37 : decode b_Led_fund 37 = .ok (.dup2, 1) := by decide +kernel
theorem d_Led_fund_38 : decode b_Led_fund 38 = .ok (.iaload, 1) := by decide +kernel
theorem d_Led_fund_39 : decode b_Led_fund 39 = .ok (.iload_n 2, 1) := by decide +kernel
theorem d_Led_fund_40 : decode b_Led_fund 40 = .ok (.iadd, 1) := by decide +kernel
theorem d_Led_fund_41 : decode b_Led_fund 41 = .ok (.iastore, 1) := by decide +kernel
theorem d_Led_fund_42 : decode b_Led_fund 42 = .ok (.iconst 1, 1) := by decide +kernel
theorem d_Led_fund_43 : decode b_Led_fund 43 = .ok (.ireturn, 1) := by decide +kernel
theorem d_Led_code_0 : decode b_Led_code 0 = .ok (.aload_n 0, 1) := by decide +kernel
theorem d_Led_code_1 : decode b_Led_code 1 = .ok (.getfield 37, 3) := by decide +kernel
theorem d_Led_code_4 : decode b_Led_code 4 = .ok (.ifCond .gt 10, 3) := by decide +kernel
theorem d_Led_code_7 : decode b_Led_code 7 = .ok (.iload_n 1, 1) := by decide +kernel
theorem d_Led_code_8 : decode b_Led_code 8 = .ok (.invokestatic 40, 3) := by decide +kernel
theorem d_Led_code_11 : decode b_Led_code 11 = .ok (.ifCond .ne 5, 3) := by decide +kernel
theorem d_Led_code_14 : decode b_Led_code 14 = .ok (.iconst 0, 1) := by decide +kernel
theorem d_Led_code_15 : decode b_Led_code 15 = .ok (.ireturn, 1) := by decide +kernel
theorem d_Led_code_16 : decode b_Led_code 16 = .ok (.aload_n 0, 1) := by decide +kernel
theorem d_Led_code_17 : decode b_Led_code 17 = .ok (.getfield 10, 3) := by decide +kernel
theorem d_Led_code_20 : decode b_Led_code 20 = .ok (.getfield 45, 3) := by decide +kernel
theorem d_Led_code_23 : decode b_Led_code 23 = .ok (.iload_n 1, 1) := by decide +kernel
theorem d_Led_code_24 : decode b_Led_code 24 = .ok (.iload_n 2, 1) := by decide +kernel
theorem d_Led_code_25 : decode b_Led_code 25 = .ok (.invokevirtual 52, 3) := by decide +kernel
theorem d_Led_code_28 : decode b_Led_code 28 = .ok (.ireturn, 1) := by decide +kernel
theorem d_Led_preset_0 : decode b_Led_preset 0 = .ok (.aload_n 0, 1) := by decide +kernel
theorem d_Led_preset_1 : decode b_Led_preset 1 = .ok (.getfield 37, 3) := by decide +kernel
theorem d_Led_preset_4 : decode b_Led_preset 4 = .ok (.ifCond .gt 17, 3) := by decide +kernel
theorem d_Led_preset_7 : decode b_Led_preset 7 = .ok (.iload_n 1, 1) := by decide +kernel
theorem d_Led_preset_8 : decode b_Led_preset 8 = .ok (.invokestatic 40, 3) := by decide +kernel
theorem d_Led_preset_11 : decode b_Led_preset 11 = .ok (.ifCond .eq 10, 3) := by decide +kernel
theorem d_Led_preset_14 : decode b_Led_preset 14 = .ok (.iload_n 2, 1) := by decide +kernel
theorem d_Led_preset_15 : decode b_Led_preset 15 = .ok (.invokestatic 56, 3) := by decide +kernel
theorem d_Led_preset_18 : decode b_Led_preset 18 = .ok (.ifCond .ne 5, 3) := by decide +kernel
theorem d_Led_preset_21 : decode b_Led_preset 21 = .ok (.iconst 0, 1) := by decide +kernel
theorem d_Led_preset_22 : decode b_Led_preset 22 = .ok (.ireturn, 1) := by decide +kernel
theorem d_Led_preset_23 : decode b_Led_preset 23 = .ok (.aload_n 0, 1) := by decide +kernel
theorem d_Led_preset_24 : decode b_Led_preset 24 = .ok (.getfield 10, 3) := by decide +kernel
theorem d_Led_preset_27 : decode b_Led_preset 27 = .ok (.getfield 45, 3) := by decide +kernel
theorem d_Led_preset_30 : decode b_Led_preset 30 = .ok (.getfield 59, 3) := by decide +kernel
theorem d_Led_preset_33 : decode b_Led_preset 33 = .ok (.iload_n 1, 1) := by decide +kernel
theorem d_Led_preset_34 : decode b_Led_preset 34 = .ok (.bipush 8, 2) := by decide +kernel
theorem d_Led_preset_36 : decode b_Led_preset 36 = .ok (.imul, 1) := by decide +kernel
theorem d_Led_preset_37 : decode b_Led_preset 37 = .ok (.iload_n 2, 1) := by decide +kernel
theorem d_Led_preset_38 : decode b_Led_preset 38 = .ok (.iadd, 1) := by decide +kernel
theorem d_Led_preset_39 : decode b_Led_preset 39 = .ok (.iload_n 3, 1) := by decide +kernel
theorem d_Led_preset_40 : decode b_Led_preset 40 = .ok (.iastore, 1) := by decide +kernel
theorem d_Led_preset_41 : decode b_Led_preset 41 = .ok (.iconst 1, 1) := by decide +kernel
theorem d_Led_preset_42 : decode b_Led_preset 42 = .ok (.ireturn, 1) := by decide +kernel
theorem d_Led_begin_0 : decode b_Led_begin 0 = .ok (.aload_n 0, 1) := by decide +kernel
theorem d_Led_begin_1 : decode b_Led_begin 1 = .ok (.getfield 62, 3) := by decide +kernel
theorem d_Led_begin_4 : decode b_Led_begin 4 = .ok (.ifCond .ne 27, 3) := by decide +kernel
theorem d_Led_begin_7 : decode b_Led_begin 7 = .ok (.iload_n 1, 1) := by decide +kernel
theorem d_Led_begin_8 : decode b_Led_begin 8 = .ok (.aload_n 0, 1) := by decide +kernel
theorem d_Led_begin_9 : decode b_Led_begin 9 = .ok (.getfield 66, 3) := by decide +kernel
theorem d_Led_begin_12 : decode b_Led_begin 12 = .ok (.if_icmp .le 19, 3) := by decide +kernel
theorem d_Led_begin_15 : decode b_Led_begin 15 = .ok (.iload_n 2, 1) := by decide +kernel
theorem d_Led_begin_16 : decode b_Led_begin 16 = .ok (.invokestatic 40, 3) := by decide +kernel
theorem d_Led_begin_19 : decode b_Led_begin 19 = .ok (.ifCond .eq 12, 3) := by decide +kernel
theorem d_Led_begin_22 : decode b_Led_begin 22 = .ok (.aload_n 0, 1) := by decide +kernel
theorem d_Led_begin_23 : decode b_Led_begin 23 = .ok (.getfield 37, 3) := by decide +kernel
theorem d_Led_begin_26 : decode b_Led_begin 26 = .ok (.bipush 30, 2) := by decide +kernel
theorem d_Led_begin_28 : decode b_Led_begin 28 = .ok (.if_icmp .lt 5, 3) := by decide +kernel
theorem d_Led_begin_31 : decode b_Led_begin 31 = .ok (.iconst 0, 1) := by decide +kernel
theorem d_Led_begin_32 : decode b_Led_begin 32 = .ok (.ireturn, 1) := by decide +kernel
theorem d_Led_begin_33 : decode b_Led_begin 33 = .ok (.aload_n 0, 1) := by decide +kernel
theorem d_Led_begin_34 : decode b_Led_begin 34 = .ok (.iconst 1, 1) := by decide +kernel
theorem d_Led_begin_35 : decode b_Led_begin 35 = .ok (.putfield 62, 3) := by decide +kernel
theorem d_Led_begin_38 : decode b_Led_begin 38 = .ok (.aload_n 0, 1) := by decide +kernel
theorem d_Led_begin_39 : decode b_Led_begin 39 = .ok (.iload_n 1, 1) := by decide +kernel
theorem d_Led_begin_40 : decode b_Led_begin 40 = .ok (.putfield 69, 3) := by decide +kernel
theorem d_Led_begin_43 : decode b_Led_begin 43 = .ok (.aload_n 0, 1) := by decide +kernel
theorem d_Led_begin_44 : decode b_Led_begin 44 = .ok (.iload_n 2, 1) := by decide +kernel
theorem d_Led_begin_45 : decode b_Led_begin 45 = .ok (.putfield 72, 3) := by decide +kernel
theorem d_Led_begin_48 : decode b_Led_begin 48 = .ok (.aload_n 0, 1) := by decide +kernel
theorem d_Led_begin_49 : decode b_Led_begin 49 = .ok (.dup, 1) := by decide +kernel
theorem d_Led_begin_50 : decode b_Led_begin 50 = .ok (.getfield 37, 3) := by decide +kernel
theorem d_Led_begin_53 : decode b_Led_begin 53 = .ok (.iconst 1, 1) := by decide +kernel
theorem d_Led_begin_54 : decode b_Led_begin 54 = .ok (.iadd, 1) := by decide +kernel
theorem d_Led_begin_55 : decode b_Led_begin 55 = .ok (.putfield 37, 3) := by decide +kernel
theorem d_Led_begin_58 : decode b_Led_begin 58 = .ok (.aload_n 0, 1) := by decide +kernel
theorem d_Led_begin_59 : decode b_Led_begin 59 = .ok (.iconst 0, 1) := by decide +kernel
theorem d_Led_begin_60 : decode b_Led_begin 60 = .ok (.putfield 75, 3) := by decide +kernel
theorem d_Led_begin_63 : decode b_Led_begin 63 = .ok (.aload_n 0, 1) := by decide +kernel
theorem d_Led_begin_64 : decode b_Led_begin 64 = .ok (.getfield 26, 3) := by decide +kernel
theorem d_Led_begin_67 : decode b_Led_begin 67 = .ok (.iconst 0, 1) := by decide +kernel
theorem d_Led_begin_68 : decode b_Led_begin 68 = .ok (.putfield 78, 3) := by decide +kernel
theorem d_Led_begin_71 : decode b_Led_begin 71 = .ok (.aload_n 0, 1) := by decide +kernel
theorem d_Led_begin_72 : decode b_Led_begin 72 = .ok (.getfield 10, 3) := by decide +kernel
theorem d_Led_begin_75 : decode b_Led_begin 75 = .ok (.getfield 81, 3) := by decide +kernel
theorem d_Led_begin_78 : decode b_Led_begin 78 = .ok (.iconst 0, 1) := by decide +kernel
theorem d_Led_begin_79 : decode b_Led_begin 79 = .ok (.iconst 0, 1) := by decide +kernel
theorem d_Led_begin_80 : decode b_Led_begin 80 = .ok (.invokevirtual 85, 3) := by decide +kernel
theorem d_Led_begin_83 : decode b_Led_begin 83 = .ok (.aload_n 0, 1) := by decide +kernel
theorem d_Led_begin_84 : decode b_Led_begin 84 = .ok (.getfield 19, 3) := by decide +kernel
theorem d_Led_begin_87 : decode b_Led_begin 87 = .ok (.aload_n 0, 1) := by decide +kernel
theorem d_Led_begin_88 : decode b_Led_begin 88 = .ok (.getfield 10, 3) := by decide +kernel
theorem d_Led_begin_91 : decode b_Led_begin 91 = .ok (.getfield 45, 3) := by decide +kernel
theorem d_Led_begin_94 : decode b_Led_begin 94 = .ok (.invokevirtual 91, 3) := by decide +kernel
theorem d_Led_begin_97 : decode b_Led_begin 97 = .ok (.iconst 1, 1) := by decide +kernel
theorem d_Led_begin_98 : decode b_Led_begin 98 = .ok (.ireturn, 1) := by decide +kernel
theorem d_Led_send_0 : decode b_Led_send 0 = .ok (.aload_n 0, 1) := by decide +kernel
theorem d_Led_send_1 : decode b_Led_send 1 = .ok (.iload_n 1, 1) := by decide +kernel
theorem d_Led_send_2 : decode b_Led_send 2 = .ok (.iload_n 2, 1) := by decide +kernel
theorem d_Led_send_3 : decode b_Led_send 3 = .ok (.iload_n 3, 1) := by decide +kernel
theorem d_Led_send_4 : decode b_Led_send 4 = .ok (.sipush 200, 3) := by decide +kernel
theorem d_Led_send_7 : decode b_Led_send 7 = .ok (.iconst 1, 1) := by decide +kernel
theorem d_Led_send_8 : decode b_Led_send 8 = .ok (.iconst 0, 1) := by decide +kernel
theorem d_Led_send_9 : decode b_Led_send 9 = .ok (.invokevirtual 95, 3) := by decide +kernel
theorem d_Led_send_12 : decode b_Led_send 12 = .ok (.istore 5, 2) := by decide +kernel
theorem d_Led_send_14 : decode b_Led_send 14 = .ok (.iload 5, 2) := by decide +kernel
theorem d_Led_send_16 : decode b_Led_send 16 = .ok (.ifCond .ge 8, 3) := by decide +kernel
theorem d_Led_send_19 : decode b_Led_send 19 = .ok (.iload 5, 2) := by decide +kernel
theorem d_Led_send_21 : decode b_Led_send 21 = .ok (.goto 16, 3) := by decide +kernel
theorem d_Led_send_24 : decode b_Led_send 24 = .ok (.aload_n 0, 1) := by decide +kernel
theorem d_Led_send_25 : decode b_Led_send 25 = .ok (.iload_n 1, 1) := by decide +kernel
theorem d_Led_send_26 : decode b_Led_send 26 = .ok (.iload_n 2, 1) := by decide +kernel
theorem d_Led_send_27 : decode b_Led_send 27 = .ok (.iload_n 3, 1) := by decide +kernel
theorem d_Led_send_28 : decode b_Led_send 28 = .ok (.iload 4, 2) := by decide +kernel
theorem d_Led_send_30 : decode b_Led_send 30 = .ok (.sipush 200, 3) := by decide +kernel
theorem d_Led_send_33 : decode b_Led_send 33 = .ok (.iconst 1, 1) := by decide +kernel
theorem d_Led_send_34 : decode b_Led_send 34 = .ok (.invokevirtual 99, 3) := by decide +kernel
theorem d_Led_send_37 : decode b_Led_send 37 = .ok (.ireturn, 1) := by decide +kernel
theorem d_Led_terms_0 : decode b_Led_terms 0 = .ok (.aload_n 0, 1) := by decide +kernel
theorem d_Led_terms_1 : decode b_Led_terms 1 = .ok (.iload_n 1, 1) := by decide +kernel
theorem d_Led_terms_2 : decode b_Led_terms 2 = .ok (.putfield 30, 3) := by decide +kernel
theorem d_Led_terms_5 : decode b_Led_terms 5 = .ok (.aload_n 0, 1) := by decide +kernel
theorem d_Led_terms_6 : decode b_Led_terms 6 = .ok (.iload_n 2, 1) := by decide +kernel
theorem d_Led_terms_7 : decode b_Led_terms 7 = .ok (.putfield 34, 3) := by decide +kernel
theorem d_Led_terms_10 : decode b_Led_terms 10 = .ok (.aload_n 0, 1) := by decide +kernel
theorem d_Led_terms_11 : decode b_Led_terms 11 = .ok (.iload_n 3, 1) := by decide +kernel
theorem d_Led_terms_12 : decode b_Led_terms 12 = .ok (.putfield 102, 3) := by decide +kernel
theorem d_Led_terms_15 : decode b_Led_terms 15 = .ok (.return_, 1) := by decide +kernel
theorem d_Led_pay_0 : decode b_Led_pay 0 = .ok (.aload_n 0, 1) := by decide +kernel
theorem d_Led_pay_1 : decode b_Led_pay 1 = .ok (.getfield 30, 3) := by decide +kernel
theorem d_Led_pay_4 : decode b_Led_pay 4 = .ok (.istore 5, 2) := by decide +kernel
theorem d_Led_pay_6 : decode b_Led_pay 6 = .ok (.aload_n 0, 1) := by decide +kernel
theorem d_Led_pay_7 : decode b_Led_pay 7 = .ok (.getfield 34, 3) := by decide +kernel
theorem d_Led_pay_10 : decode b_Led_pay 10 = .ok (.istore 6, 2) := by decide +kernel
theorem d_Led_pay_12 : decode b_Led_pay 12 = .ok (.aload_n 0, 1) := by decide +kernel
theorem d_Led_pay_13 : decode b_Led_pay 13 = .ok (.iload_n 1, 1) := by decide +kernel
theorem d_Led_pay_14 : decode b_Led_pay 14 = .ok (.iload_n 2, 1) := by decide +kernel
theorem d_Led_pay_15 : decode b_Led_pay 15 = .ok (.iload_n 3, 1) := by decide +kernel
theorem d_Led_pay_16 : decode b_Led_pay 16 = .ok (.iload 5, 2) := by decide +kernel
theorem d_Led_pay_18 : decode b_Led_pay 18 = .ok (.iload 6, 2) := by decide +kernel
theorem d_Led_pay_20 : decode b_Led_pay 20 = .ok (.aload_n 0, 1) := by decide +kernel
theorem d_Led_pay_21 : decode b_Led_pay 21 = .ok (.getfield 102, 3) := by decide +kernel
theorem d_Led_pay_24 : decode b_Led_pay 24 = .ok (.invokevirtual 95, 3) := by decide +kernel
theorem d_Led_pay_27 : decode b_Led_pay 27 = .ok (.istore 7, 2) := by decide +kernel
theorem d_Led_pay_29 : decode b_Led_pay 29 = .ok (.aload_n 0, 1) := by decide +kernel
theorem d_Led_pay_30 : decode b_Led_pay 30 = .ok (.sipush 200, 3) := by decide +kernel
theorem d_Led_pay_33 : decode b_Led_pay 33 = .ok (.iconst 1, 1) := by decide +kernel
theorem d_Led_pay_34 : decode b_Led_pay 34 = .ok (.iconst 0, 1) := by decide +kernel
theorem d_Led_pay_35 : decode b_Led_pay 35 = .ok (.invokevirtual 105, 3) := by decide +kernel
theorem d_Led_pay_38 : decode b_Led_pay 38 = .ok (.iload 7, 2) := by decide +kernel
theorem d_Led_pay_40 : decode b_Led_pay 40 = .ok (.ifCond .ge 8, 3) := by decide +kernel
theorem d_Led_pay_43 : decode b_Led_pay 43 = .ok (.iload 7, 2) := by decide +kernel
theorem d_Led_pay_45 : decode b_Led_pay 45 = .ok (.goto 16, 3) := by decide +kernel
theorem d_Led_pay_48 : decode b_Led_pay 48 = .ok (.aload_n 0, 1) := by decide +kernel
theorem d_Led_pay_49 : decode b_Led_pay 49 = .ok (.iload_n 1, 1) := by decide +kernel
theorem d_Led_pay_50 : decode b_Led_pay 50 = .ok (.iload_n 2, 1) := by decide +kernel
theorem d_Led_pay_51 : decode b_Led_pay 51 = .ok (.iload_n 3, 1) := by decide +kernel
theorem d_Led_pay_52 : decode b_Led_pay 52 = .ok (.iload 4, 2) := by decide +kernel
theorem d_Led_pay_54 : decode b_Led_pay 54 = .ok (.iload 5, 2) := by decide +kernel
theorem d_Led_pay_56 : decode b_Led_pay 56 = .ok (.iload 6, 2) := by decide +kernel
theorem d_Led_pay_58 : decode b_Led_pay 58 = .ok (.invokevirtual 99, 3) := by decide +kernel
theorem d_Led_pay_61 : decode b_Led_pay 61 = .ok (.ireturn, 1) := by decide +kernel
theorem d_Led_seal_0 : decode b_Led_seal 0 = .ok (.aload_n 0, 1) := by decide +kernel
theorem d_Led_seal_1 : decode b_Led_seal 1 = .ok (.getfield 62, 3) := by decide +kernel
theorem d_Led_seal_4 : decode b_Led_seal 4 = .ok (.ifCond .ne 5, 3) := by decide +kernel
theorem d_Led_seal_7 : decode b_Led_seal 7 = .ok (.iconst (-1), 1) := by decide +kernel
theorem d_Led_seal_8 : decode b_Led_seal 8 = .ok (.ireturn, 1) := by decide +kernel
theorem d_Led_seal_9 : decode b_Led_seal 9 = .ok (.aload_n 0, 1) := by decide +kernel
theorem d_Led_seal_10 : decode b_Led_seal 10 = .ok (.iconst 0, 1) := by decide +kernel
theorem d_Led_seal_11 : decode b_Led_seal 11 = .ok (.putfield 62, 3) := by decide +kernel
theorem d_Led_seal_14 : decode b_Led_seal 14 = .ok (.aload_n 0, 1) := by decide +kernel
theorem d_Led_seal_15 : decode b_Led_seal 15 = .ok (.getfield 10, 3) := by decide +kernel
theorem d_Led_seal_18 : decode b_Led_seal 18 = .ok (.getfield 45, 3) := by decide +kernel
theorem d_Led_seal_21 : decode b_Led_seal 21 = .ok (.getfield 48, 3) := by decide +kernel
theorem d_Led_seal_24 : decode b_Led_seal 24 = .ok (.aload_n 0, 1) := by decide +kernel
theorem d_Led_seal_25 : decode b_Led_seal 25 = .ok (.getfield 72, 3) := by decide +kernel
theorem d_Led_seal_28 : decode b_Led_seal 28 = .ok (.dup2, 1) := by decide +kernel
theorem d_Led_seal_29 : decode b_Led_seal 29 = .ok (.iaload, 1) := by decide +kernel
theorem d_Led_seal_30 : decode b_Led_seal 30 = .ok (.bipush 50, 2) := by decide +kernel
theorem d_Led_seal_32 : decode b_Led_seal 32 = .ok (.iadd, 1) := by decide +kernel
theorem d_Led_seal_33 : decode b_Led_seal 33 = .ok (.iastore, 1) := by decide +kernel
theorem d_Led_seal_34 : decode b_Led_seal 34 = .ok (.iload_n 1, 1) := by decide +kernel
theorem d_Led_seal_35 : decode b_Led_seal 35 = .ok (.ifCond .ne 23, 3) := by decide +kernel
theorem d_Led_seal_38 : decode b_Led_seal 38 = .ok (.aload_n 0, 1) := by decide +kernel
theorem d_Led_seal_39 : decode b_Led_seal 39 = .ok (.dup, 1) := by decide +kernel
theorem d_Led_seal_40 : decode b_Led_seal 40 = .ok (.getfield 109, 3) := by decide +kernel
theorem d_Led_seal_43 : decode b_Led_seal 43 = .ok (.iconst 1, 1) := by decide +kernel
theorem d_Led_seal_44 : decode b_Led_seal 44 = .ok (.iadd, 1) := by decide +kernel
theorem d_Led_seal_45 : decode b_Led_seal 45 = .ok (.putfield 109, 3) := by decide +kernel
theorem d_Led_seal_48 : decode b_Led_seal 48 = .ok (.aload_n 0, 1) := by decide +kernel
theorem d_Led_seal_49 : decode b_Led_seal 49 = .ok (.aload_n 0, 1) := by decide +kernel
theorem d_Led_seal_50 : decode b_Led_seal 50 = .ok (.getfield 69, 3) := by decide +kernel
theorem d_Led_seal_53 : decode b_Led_seal 53 = .ok (.putfield 66, 3) := by decide +kernel
theorem d_Led_seal_56 : decode b_Led_seal 56 = .ok (.iconst 1, 1) := by decide +kernel
theorem d_Led_seal_57 : decode b_Led_seal 57 = .ok (.ireturn, 1) := by decide +kernel
theorem d_Led_seal_58 : decode b_Led_seal 58 = .ok (.aload_n 0, 1) := by decide +kernel
theorem d_Led_seal_59 : decode b_Led_seal 59 = .ok (.dup, 1) := by decide +kernel
theorem d_Led_seal_60 : decode b_Led_seal 60 = .ok (.getfield 112, 3) := by decide +kernel
theorem d_Led_seal_63 : decode b_Led_seal 63 = .ok (.iconst 1, 1) := by decide +kernel
theorem d_Led_seal_64 : decode b_Led_seal 64 = .ok (.iadd, 1) := by decide +kernel
theorem d_Led_seal_65 : decode b_Led_seal 65 = .ok (.putfield 112, 3) := by decide +kernel
theorem d_Led_seal_68 : decode b_Led_seal 68 = .ok (.aload_n 0, 1) := by decide +kernel
theorem d_Led_seal_69 : decode b_Led_seal 69 = .ok (.getfield 10, 3) := by decide +kernel
theorem d_Led_seal_72 : decode b_Led_seal 72 = .ok (.getfield 45, 3) := by decide +kernel
theorem d_Led_seal_75 : decode b_Led_seal 75 = .ok (.aload_n 0, 1) := by decide +kernel
theorem d_Led_seal_76 : decode b_Led_seal 76 = .ok (.getfield 19, 3) := by decide +kernel
theorem d_Led_seal_79 : decode b_Led_seal 79 = .ok (.invokevirtual 91, 3) := by decide +kernel
theorem d_Led_seal_82 : decode b_Led_seal 82 = .ok (.iconst 0, 1) := by decide +kernel
theorem d_Led_seal_83 : decode b_Led_seal 83 = .ok (.ireturn, 1) := by decide +kernel
theorem d_Led_look_0 : decode b_Led_look 0 = .ok (.iload_n 1, 1) := by decide +kernel
theorem d_Led_look_1 : decode b_Led_look 1 = .ok (.invokestatic 40, 3) := by decide +kernel
theorem d_Led_look_4 : decode b_Led_look 4 = .ok (.ifCond .ne 5, 3) := by decide +kernel
theorem d_Led_look_7 : decode b_Led_look 7 = .ok (.iconst (-1), 1) := by decide +kernel
theorem d_Led_look_8 : decode b_Led_look 8 = .ok (.ireturn, 1) := by decide +kernel
theorem d_Led_look_9 : decode b_Led_look 9 = .ok (.iload_n 2, 1) := by decide +kernel
theorem d_Led_look_10 : decode b_Led_look 10 = .ok (.tableswitch 97 0 4 #[34, 47, 60, 73, 85], 34) := by decide +kernel
theorem d_Led_look_44 : decode b_Led_look 44 = .ok (.aload_n 0, 1) := by decide +kernel
theorem d_Led_look_45 : decode b_Led_look 45 = .ok (.getfield 10, 3) := by decide +kernel
theorem d_Led_look_48 : decode b_Led_look 48 = .ok (.getfield 45, 3) := by decide +kernel
theorem d_Led_look_51 : decode b_Led_look 51 = .ok (.getfield 48, 3) := by decide +kernel
theorem d_Led_look_54 : decode b_Led_look 54 = .ok (.iload_n 1, 1) := by decide +kernel
theorem d_Led_look_55 : decode b_Led_look 55 = .ok (.iaload, 1) := by decide +kernel
theorem d_Led_look_56 : decode b_Led_look 56 = .ok (.ireturn, 1) := by decide +kernel
theorem d_Led_look_57 : decode b_Led_look 57 = .ok (.aload_n 0, 1) := by decide +kernel
theorem d_Led_look_58 : decode b_Led_look 58 = .ok (.getfield 10, 3) := by decide +kernel
theorem d_Led_look_61 : decode b_Led_look 61 = .ok (.getfield 45, 3) := by decide +kernel
theorem d_Led_look_64 : decode b_Led_look 64 = .ok (.getfield 115, 3) := by decide +kernel
theorem d_Led_look_67 : decode b_Led_look 67 = .ok (.iload_n 1, 1) := by decide +kernel
theorem d_Led_look_68 : decode b_Led_look 68 = .ok (.iaload, 1) := by decide +kernel
theorem d_Led_look_69 : decode b_Led_look 69 = .ok (.ireturn, 1) := by decide +kernel
theorem d_Led_look_70 : decode b_Led_look 70 = .ok (.aload_n 0, 1) := by decide +kernel
theorem d_Led_look_71 : decode b_Led_look 71 = .ok (.getfield 10, 3) := by decide +kernel
theorem d_Led_look_74 : decode b_Led_look 74 = .ok (.getfield 45, 3) := by decide +kernel
theorem d_Led_look_77 : decode b_Led_look 77 = .ok (.getfield 118, 3) := by decide +kernel
theorem d_Led_look_80 : decode b_Led_look 80 = .ok (.iload_n 1, 1) := by decide +kernel
theorem d_Led_look_81 : decode b_Led_look 81 = .ok (.iaload, 1) := by decide +kernel
theorem d_Led_look_82 : decode b_Led_look 82 = .ok (.ireturn, 1) := by decide +kernel
theorem d_Led_look_83 : decode b_Led_look 83 = .ok (.aload_n 0, 1) := by decide +kernel
theorem d_Led_look_84 : decode b_Led_look 84 = .ok (.getfield 10, 3) := by decide +kernel
theorem d_Led_look_87 : decode b_Led_look 87 = .ok (.getfield 45, 3) := by decide +kernel
theorem d_Led_look_90 : decode b_Led_look 90 = .ok (.iload_n 1, 1) := by decide +kernel
theorem d_Led_look_91 : decode b_Led_look 91 = .ok (.invokevirtual 121, 3) := by decide +kernel
theorem d_Led_look_94 : decode b_Led_look 94 = .ok (.ireturn, 1) := by decide +kernel
theorem d_Led_look_95 : decode b_Led_look 95 = .ok (.aload_n 0, 1) := by decide +kernel
theorem d_Led_look_96 : decode b_Led_look 96 = .ok (.getfield 10, 3) := by decide +kernel
theorem d_Led_look_99 : decode b_Led_look 99 = .ok (.getfield 45, 3) := by decide +kernel
theorem d_Led_look_102 : decode b_Led_look 102 = .ok (.iload_n 1, 1) := by decide +kernel
theorem d_Led_look_103 : decode b_Led_look 103 = .ok (.invokevirtual 125, 3) := by decide +kernel
theorem d_Led_look_106 : decode b_Led_look 106 = .ok (.ireturn, 1) := by decide +kernel
theorem d_Led_look_107 : decode b_Led_look 107 = .ok (.iconst (-1), 1) := by decide +kernel
theorem d_Led_look_108 : decode b_Led_look 108 = .ok (.ireturn, 1) := by decide +kernel
theorem d_Led_slot_0 : decode b_Led_slot 0 = .ok (.aload_n 0, 1) := by decide +kernel
theorem d_Led_slot_1 : decode b_Led_slot 1 = .ok (.getfield 10, 3) := by decide +kernel
theorem d_Led_slot_4 : decode b_Led_slot 4 = .ok (.getfield 45, 3) := by decide +kernel
theorem d_Led_slot_7 : decode b_Led_slot 7 = .ok (.iload_n 1, 1) := by decide +kernel
theorem d_Led_slot_8 : decode b_Led_slot 8 = .ok (.iload_n 2, 1) := by decide +kernel
theorem d_Led_slot_9 : decode b_Led_slot 9 = .ok (.invokevirtual 128, 3) := by decide +kernel
theorem d_Led_slot_12 : decode b_Led_slot 12 = .ok (.ireturn, 1) := by decide +kernel
theorem d_Led_word_0 : decode b_Led_word 0 = .ok (.aload_n 0, 1) := by decide +kernel
theorem d_Led_word_1 : decode b_Led_word 1 = .ok (.getfield 10, 3) := by decide +kernel
theorem d_Led_word_4 : decode b_Led_word 4 = .ok (.getfield 45, 3) := by decide +kernel
theorem d_Led_word_7 : decode b_Led_word 7 = .ok (.iload_n 1, 1) := by decide +kernel
theorem d_Led_word_8 : decode b_Led_word 8 = .ok (.iload_n 2, 1) := by decide +kernel
theorem d_Led_word_9 : decode b_Led_word 9 = .ok (.invokevirtual 132, 3) := by decide +kernel
theorem d_Led_word_12 : decode b_Led_word 12 = .ok (.ireturn, 1) := by decide +kernel
theorem d_Led_root_0 : decode b_Led_root 0 = .ok (.aload_n 0, 1) := by decide +kernel
theorem d_Led_root_1 : decode b_Led_root 1 = .ok (.getfield 10, 3) := by decide +kernel
theorem d_Led_root_4 : decode b_Led_root 4 = .ok (.getfield 45, 3) := by decide +kernel
theorem d_Led_root_7 : decode b_Led_root 7 = .ok (.invokevirtual 135, 3) := by decide +kernel
theorem d_Led_root_10 : decode b_Led_root 10 = .ok (.ireturn, 1) := by decide +kernel
theorem d_Led_block_0 : decode b_Led_block 0 = .ok (.iload_n 1, 1) := by decide +kernel
theorem d_Led_block_1 : decode b_Led_block 1 = .ok (.tableswitch 110 0 7 #[47, 52, 57, 62, 75, 80, 91, 99], 47) := by decide +kernel
theorem d_Led_block_48 : decode b_Led_block 48 = .ok (.aload_n 0, 1) := by decide +kernel
theorem d_Led_block_49 : decode b_Led_block 49 = .ok (.getfield 109, 3) := by decide +kernel
theorem d_Led_block_52 : decode b_Led_block 52 = .ok (.ireturn, 1) := by decide +kernel
theorem d_Led_block_53 : decode b_Led_block 53 = .ok (.aload_n 0, 1) := by decide +kernel
theorem d_Led_block_54 : decode b_Led_block 54 = .ok (.getfield 112, 3) := by decide +kernel
theorem d_Led_block_57 : decode b_Led_block 57 = .ok (.ireturn, 1) := by decide +kernel
theorem d_Led_block_58 : decode b_Led_block 58 = .ok (.aload_n 0, 1) := by decide +kernel
theorem d_Led_block_59 : decode b_Led_block 59 = .ok (.getfield 66, 3) := by decide +kernel
theorem d_Led_block_62 : decode b_Led_block 62 = .ok (.ireturn, 1) := by decide +kernel
theorem d_Led_block_63 : decode b_Led_block 63 = .ok (.aload_n 0, 1) := by decide +kernel
theorem d_Led_block_64 : decode b_Led_block 64 = .ok (.getfield 62, 3) := by decide +kernel
theorem d_Led_block_67 : decode b_Led_block 67 = .ok (.ifCond .eq 7, 3) := by decide +kernel
theorem d_Led_block_70 : decode b_Led_block 70 = .ok (.iconst 1, 1) := by decide +kernel
theorem d_Led_block_71 : decode b_Led_block 71 = .ok (.goto 4, 3) := by decide +kernel
theorem d_Led_block_74 : decode b_Led_block 74 = .ok (.iconst 0, 1) := by decide +kernel
theorem d_Led_block_75 : decode b_Led_block 75 = .ok (.ireturn, 1) := by decide +kernel
theorem d_Led_block_76 : decode b_Led_block 76 = .ok (.aload_n 0, 1) := by decide +kernel
theorem d_Led_block_77 : decode b_Led_block 77 = .ok (.getfield 75, 3) := by decide +kernel
theorem d_Led_block_80 : decode b_Led_block 80 = .ok (.ireturn, 1) := by decide +kernel
theorem d_Led_block_81 : decode b_Led_block 81 = .ok (.aload_n 0, 1) := by decide +kernel
theorem d_Led_block_82 : decode b_Led_block 82 = .ok (.getfield 10, 3) := by decide +kernel
theorem d_Led_block_85 : decode b_Led_block 85 = .ok (.getfield 81, 3) := by decide +kernel
theorem d_Led_block_88 : decode b_Led_block 88 = .ok (.getfield 139, 3) := by decide +kernel
theorem d_Led_block_91 : decode b_Led_block 91 = .ok (.ireturn, 1) := by decide +kernel
theorem d_Led_block_92 : decode b_Led_block 92 = .ok (.aload_n 0, 1) := by decide +kernel
theorem d_Led_block_93 : decode b_Led_block 93 = .ok (.getfield 26, 3) := by decide +kernel
theorem d_Led_block_96 : decode b_Led_block 96 = .ok (.getfield 78, 3) := by decide +kernel
theorem d_Led_block_99 : decode b_Led_block 99 = .ok (.ireturn, 1) := by decide +kernel
theorem d_Led_block_100 : decode b_Led_block 100 = .ok (.aload_n 0, 1) := by decide +kernel
theorem d_Led_block_101 : decode b_Led_block 101 = .ok (.getfield 10, 3) := by decide +kernel
theorem d_Led_block_104 : decode b_Led_block 104 = .ok (.getfield 81, 3) := by decide +kernel
theorem d_Led_block_107 : decode b_Led_block 107 = .ok (.getfield 142, 3) := by decide +kernel
theorem d_Led_block_110 : decode b_Led_block 110 = .ok (.ireturn, 1) := by decide +kernel
theorem d_Led_block_111 : decode b_Led_block 111 = .ok (.iconst (-1), 1) := by decide +kernel
theorem d_Led_block_112 : decode b_Led_block 112 = .ok (.ireturn, 1) := by decide +kernel
theorem d_Led_receipt_0 : decode b_Led_receipt 0 = .ok (.aload_n 0, 1) := by decide +kernel
theorem d_Led_receipt_1 : decode b_Led_receipt 1 = .ok (.getfield 26, 3) := by decide +kernel
theorem d_Led_receipt_4 : decode b_Led_receipt 4 = .ok (.iload_n 1, 1) := by decide +kernel
theorem d_Led_receipt_5 : decode b_Led_receipt 5 = .ok (.iload_n 2, 1) := by decide +kernel
theorem d_Led_receipt_6 : decode b_Led_receipt 6 = .ok (.invokevirtual 143, 3) := by decide +kernel
theorem d_Led_receipt_9 : decode b_Led_receipt 9 = .ok (.ireturn, 1) := by decide +kernel
theorem d_Led_log_0 : decode b_Led_log 0 = .ok (.aload_n 0, 1) := by decide +kernel
theorem d_Led_log_1 : decode b_Led_log 1 = .ok (.getfield 10, 3) := by decide +kernel
theorem d_Led_log_4 : decode b_Led_log 4 = .ok (.getfield 81, 3) := by decide +kernel
theorem d_Led_log_7 : decode b_Led_log 7 = .ok (.iload_n 1, 1) := by decide +kernel
theorem d_Led_log_8 : decode b_Led_log 8 = .ok (.iload_n 2, 1) := by decide +kernel
theorem d_Led_log_9 : decode b_Led_log 9 = .ok (.invokevirtual 146, 3) := by decide +kernel
theorem d_Led_log_12 : decode b_Led_log 12 = .ok (.ireturn, 1) := by decide +kernel
theorem d_Led_total_0 : decode b_Led_total 0 = .ok (.lconst 0, 1) := by decide +kernel
theorem d_Led_total_1 : decode b_Led_total 1 = .ok (.lstore_n 1, 1) := by decide +kernel
theorem d_Led_total_2 : decode b_Led_total 2 = .ok (.iconst 0, 1) := by decide +kernel
theorem d_Led_total_3 : decode b_Led_total 3 = .ok (.istore_n 3, 1) := by decide +kernel
theorem d_Led_total_4 : decode b_Led_total 4 = .ok (.iload_n 3, 1) := by decide +kernel
theorem d_Led_total_5 : decode b_Led_total 5 = .ok (.bipush 16, 2) := by decide +kernel
theorem d_Led_total_7 : decode b_Led_total 7 = .ok (.if_icmp .ge 25, 3) := by decide +kernel
theorem d_Led_total_10 : decode b_Led_total 10 = .ok (.lload_n 1, 1) := by decide +kernel
theorem d_Led_total_11 : decode b_Led_total 11 = .ok (.aload_n 0, 1) := by decide +kernel
theorem d_Led_total_12 : decode b_Led_total 12 = .ok (.getfield 10, 3) := by decide +kernel
theorem d_Led_total_15 : decode b_Led_total 15 = .ok (.getfield 45, 3) := by decide +kernel
theorem d_Led_total_18 : decode b_Led_total 18 = .ok (.getfield 48, 3) := by decide +kernel
theorem d_Led_total_21 : decode b_Led_total 21 = .ok (.iload_n 3, 1) := by decide +kernel
theorem d_Led_total_22 : decode b_Led_total 22 = .ok (.iaload, 1) := by decide +kernel
theorem d_Led_total_23 : decode b_Led_total 23 = .ok (.i2l, 1) := by decide +kernel
theorem d_Led_total_24 : decode b_Led_total 24 = .ok (.ladd, 1) := by decide +kernel
theorem d_Led_total_25 : decode b_Led_total 25 = .ok (.lstore_n 1, 1) := by decide +kernel
theorem d_Led_total_26 : decode b_Led_total 26 = .ok (.iinc 3 1, 3) := by decide +kernel
theorem d_Led_total_29 : decode b_Led_total 29 = .ok (.goto (-25), 3) := by decide +kernel
theorem d_Led_total_32 : decode b_Led_total 32 = .ok (.lload_n 1, 1) := by decide +kernel
theorem d_Led_total_33 : decode b_Led_total 33 = .ok (.lreturn, 1) := by decide +kernel
theorem d_Led_refusalOf_0 : decode b_Led_refusalOf 0 = .ok (.aload_n 0, 1) := by decide +kernel
theorem d_Led_refusalOf_1 : decode b_Led_refusalOf 1 = .ok (.getfield 62, 3) := by decide +kernel
theorem d_Led_refusalOf_4 : decode b_Led_refusalOf 4 = .ok (.ifCond .ne 5, 3) := by decide +kernel
theorem d_Led_refusalOf_7 : decode b_Led_refusalOf 7 = .ok (.iconst (-1), 1) := by decide +kernel
theorem d_Led_refusalOf_8 : decode b_Led_refusalOf 8 = .ok (.ireturn, 1) := by decide +kernel
theorem d_Led_refusalOf_9 : decode b_Led_refusalOf 9 = .ok (.iload_n 1, 1) := by decide +kernel
theorem d_Led_refusalOf_10 : decode b_Led_refusalOf 10 = .ok (.invokestatic 40, 3) := by decide +kernel
theorem d_Led_refusalOf_13 : decode b_Led_refusalOf 13 = .ok (.ifCond .eq 14, 3) := by decide +kernel
theorem d_Led_refusalOf_16 : decode b_Led_refusalOf 16 = .ok (.iload_n 2, 1) := by decide +kernel
theorem d_Led_refusalOf_17 : decode b_Led_refusalOf 17 = .ok (.invokestatic 40, 3) := by decide +kernel
theorem d_Led_refusalOf_20 : decode b_Led_refusalOf 20 = .ok (.ifCond .eq 7, 3) := by decide +kernel
theorem d_Led_refusalOf_23 : decode b_Led_refusalOf 23 = .ok (.iload_n 3, 1) := by decide +kernel
theorem d_Led_refusalOf_24 : decode b_Led_refusalOf 24 = .ok (.ifCond .ge 6, 3) := by decide +kernel
theorem d_Led_refusalOf_27 : decode b_Led_refusalOf 27 = .ok (.bipush (-2), 2) := by decide +kernel
theorem d_Led_refusalOf_29 : decode b_Led_refusalOf 29 = .ok (.ireturn, 1) := by decide +kernel
theorem d_Led_refusalOf_30 : decode b_Led_refusalOf 30 = .ok (.iload 6, 2) := by decide +kernel
theorem d_Led_refusalOf_32 : decode b_Led_refusalOf 32 = .ok (.ifCond .eq 6, 3) := by decide +kernel
theorem d_Led_refusalOf_35 : decode b_Led_refusalOf 35 = .ok (.bipush (-3), 2) := by decide +kernel
theorem d_Led_refusalOf_37 : decode b_Led_refusalOf 37 = .ok (.ireturn, 1) := by decide +kernel
theorem d_Led_refusalOf_38 : decode b_Led_refusalOf 38 = .ok (.iload 4, 2) := by decide +kernel
theorem d_Led_refusalOf_40 : decode b_Led_refusalOf 40 = .ok (.bipush 20, 2) := by decide +kernel
theorem d_Led_refusalOf_42 : decode b_Led_refusalOf 42 = .ok (.if_icmp .lt 23, 3) := by decide +kernel
theorem d_Led_refusalOf_45 : decode b_Led_refusalOf 45 = .ok (.iload 4, 2) := by decide +kernel
theorem d_Led_refusalOf_47 : decode b_Led_refusalOf 47 = .ok (.sipush 3000, 3) := by decide +kernel
theorem d_Led_refusalOf_50 : decode b_Led_refusalOf 50 = .ok (.if_icmp .gt 15, 3) := by decide +kernel
theorem d_Led_refusalOf_53 : decode b_Led_refusalOf 53 = .ok (.iload 5, 2) := by decide +kernel
theorem d_Led_refusalOf_55 : decode b_Led_refusalOf 55 = .ok (.ifCond .lt 10, 3) := by decide +kernel
theorem d_Led_refusalOf_58 : decode b_Led_refusalOf 58 = .ok (.iload 5, 2) := by decide +kernel
theorem d_Led_refusalOf_60 : decode b_Led_refusalOf 60 = .ok (.bipush 100, 2) := by decide +kernel
theorem d_Led_refusalOf_62 : decode b_Led_refusalOf 62 = .ok (.if_icmp .le 6, 3) := by decide +kernel
theorem d_Led_refusalOf_65 : decode b_Led_refusalOf 65 = .ok (.bipush (-4), 2) := by decide +kernel
theorem d_Led_refusalOf_67 : decode b_Led_refusalOf 67 = .ok (.ireturn, 1) := by decide +kernel
theorem d_Led_refusalOf_68 : decode b_Led_refusalOf 68 = .ok (.iload 4, 2) := by decide +kernel
theorem d_Led_refusalOf_70 : decode b_Led_refusalOf 70 = .ok (.sipush 3000, 3) := by decide +kernel
theorem d_Led_refusalOf_73 : decode b_Led_refusalOf 73 = .ok (.aload_n 0, 1) := by decide +kernel
theorem d_Led_refusalOf_74 : decode b_Led_refusalOf 74 = .ok (.getfield 75, 3) := by decide +kernel
theorem d_Led_refusalOf_77 : decode b_Led_refusalOf 77 = .ok (.isub, 1) := by decide +kernel
theorem d_Led_refusalOf_78 : decode b_Led_refusalOf 78 = .ok (.if_icmp .le 6, 3) := by decide +kernel
theorem d_Led_refusalOf_81 : decode b_Led_refusalOf 81 = .ok (.bipush (-5), 2) := by decide +kernel
theorem d_Led_refusalOf_83 : decode b_Led_refusalOf 83 = .ok (.ireturn, 1) := by decide +kernel
theorem d_Led_refusalOf_84 : decode b_Led_refusalOf 84 = .ok (.iload 4, 2) := by decide +kernel
theorem d_Led_refusalOf_86 : decode b_Led_refusalOf 86 = .ok (.i2l, 1) := by decide +kernel
theorem d_Led_refusalOf_87 : decode b_Led_refusalOf 87 = .ok (.iload 5, 2) := by decide +kernel
theorem d_Led_refusalOf_89 : decode b_Led_refusalOf 89 = .ok (.i2l, 1) := by decide +kernel
theorem d_Led_refusalOf_90 : decode b_Led_refusalOf 90 = .ok (.lmul, 1) := by decide +kernel
theorem d_Led_refusalOf_91 : decode b_Led_refusalOf 91 = .ok (.iload_n 3, 1) := by decide +kernel
theorem d_Led_refusalOf_92 : decode b_Led_refusalOf 92 = .ok (.i2l, 1) := by decide +kernel
theorem d_Led_refusalOf_93 : decode b_Led_refusalOf 93 = .ok (.ladd, 1) := by decide +kernel
theorem d_Led_refusalOf_94 : decode b_Led_refusalOf 94 = .ok (.lstore 7, 2) := by decide +kernel
theorem d_Led_refusalOf_96 : decode b_Led_refusalOf 96 = .ok (.aload_n 0, 1) := by decide +kernel
theorem d_Led_refusalOf_97 : decode b_Led_refusalOf 97 = .ok (.getfield 10, 3) := by decide +kernel
theorem d_Led_refusalOf_100 : decode b_Led_refusalOf 100 = .ok (.getfield 45, 3) := by decide +kernel
theorem d_Led_refusalOf_103 : decode b_Led_refusalOf 103 = .ok (.getfield 48, 3) := by decide +kernel
theorem d_Led_refusalOf_106 : decode b_Led_refusalOf 106 = .ok (.iload_n 1, 1) := by decide +kernel
theorem d_Led_refusalOf_107 : decode b_Led_refusalOf 107 = .ok (.iaload, 1) := by decide +kernel
theorem d_Led_refusalOf_108 : decode b_Led_refusalOf 108 = .ok (.i2l, 1) := by decide +kernel
theorem d_Led_refusalOf_109 : decode b_Led_refusalOf 109 = .ok (.lload 7, 2) := by decide +kernel
theorem d_Led_refusalOf_111 : decode b_Led_refusalOf 111 = .ok (.lcmp, 1) := by decide +kernel
theorem d_Led_refusalOf_112 : decode b_Led_refusalOf 112 = .ok (.ifCond .ge 8, 3) := by decide +kernel
theorem d_Led_refusalOf_115 : decode b_Led_refusalOf 115 = .ok (.bipush (-6), 2) := by decide +kernel
theorem d_Led_refusalOf_117 : decode b_Led_refusalOf 117 = .ok (.goto 4, 3) := by decide +kernel
theorem d_Led_refusalOf_120 : decode b_Led_refusalOf 120 = .ok (.iconst 0, 1) := by decide +kernel
theorem d_Led_refusalOf_121 : decode b_Led_refusalOf 121 = .ok (.ireturn, 1) := by decide +kernel
end
section
theorem d_Led_perform_0 : decode b_Led_perform 0 = .ok (.aload_n 0, 1) := by decide +kernel
theorem d_Led_perform_1 : decode b_Led_perform 1 = .ok (.getfield 10, 3) := by decide +kernel
theorem d_Led_perform_4 : decode b_Led_perform 4 = .ok (.getfield 45, 3) := by decide +kernel
theorem d_Led_perform_7 : decode b_Led_perform 7 = .ok (.astore 7, 2) := by decide +kernel
theorem d_Led_perform_9 : decode b_Led_perform 9 = .ok (.aload_n 0, 1) := by decide +kernel
theorem d_Led_perform_10 : decode b_Led_perform 10 = .ok (.getfield 10, 3) := by decide +kernel
theorem d_Led_perform_13 : decode b_Led_perform 13 = .ok (.getfield 81, 3) := by decide +kernel
theorem d_Led_perform_16 : decode b_Led_perform 16 = .ok (.getfield 142, 3) := by decide +kernel
theorem d_Led_perform_19 : decode b_Led_perform 19 = .ok (.istore 8, 2) := by decide +kernel
theorem d_Led_perform_21 : decode b_Led_perform 21 = .ok (.aload 7, 2) := by decide +kernel
theorem d_Led_perform_23 : decode b_Led_perform 23 = .ok (.getfield 48, 3) := by decide +kernel
theorem d_Led_perform_26 : decode b_Led_perform 26 = .ok (.iload_n 1, 1) := by decide +kernel
theorem d_Led_perform_27 : decode b_Led_perform 27 = .ok (.dup2, 1) := by decide +kernel
theorem d_Led_perform_28 : decode b_Led_perform 28 = .ok (.iaload, 1) := by decide +kernel
theorem d_Led_perform_29 : decode b_Led_perform 29 = .ok (.iload 5, 2) := by decide +kernel
theorem d_Led_perform_31 : decode b_Led_perform 31 = .ok (.iload 6, 2) := by decide +kernel
theorem d_Led_perform_33 : decode b_Led_perform 33 = .ok (.imul, 1) := by decide +kernel
theorem d_Led_perform_34 : decode b_Led_perform 34 = .ok (.isub, 1) := by decide +kernel
theorem d_Led_perform_35 : decode b_Led_perform 35 = .ok (.iastore, 1) := by decide +kernel
theorem d_Led_perform_36 : decode b_Led_perform 36 = .ok (.aload 7, 2) := by decide +kernel
theorem d_Led_perform_38 : decode b_Led_perform 38 = .ok (.getfield 115, 3) := by decide +kernel
theorem d_Led_perform_41 : decode b_Led_perform 41 = .ok (.iload_n 1, 1) := by decide +kernel
theorem d_Led_perform_42 : decode b_Led_perform 42 = .ok (.dup2, 1) := by decide +kernel
theorem d_Led_perform_43 : decode b_Led_perform 43 = .ok (.iaload, 1) := by decide +kernel
theorem d_Led_perform_44 : decode b_Led_perform 44 = .ok (.iconst 1, 1) := by decide +kernel
theorem d_Led_perform_45 : decode b_Led_perform 45 = .ok (.iadd, 1) := by decide +kernel
theorem d_Led_perform_46 : decode b_Led_perform 46 = .ok (.iastore, 1) := by decide +kernel
theorem d_Led_perform_47 : decode b_Led_perform 47 = .ok (.aload_n 0, 1) := by decide +kernel
theorem d_Led_perform_48 : decode b_Led_perform 48 = .ok (.getfield 10, 3) := by decide +kernel
theorem d_Led_perform_51 : decode b_Led_perform 51 = .ok (.iload_n 1, 1) := by decide +kernel
theorem d_Led_perform_52 : decode b_Led_perform 52 = .ok (.iload_n 2, 1) := by decide +kernel
theorem d_Led_perform_53 : decode b_Led_perform 53 = .ok (.iload_n 3, 1) := by decide +kernel
theorem d_Led_perform_54 : decode b_Led_perform 54 = .ok (.iload 4, 2) := by decide +kernel
theorem d_Led_perform_56 : decode b_Led_perform 56 = .ok (.iload 5, 2) := by decide +kernel
theorem d_Led_perform_58 : decode b_Led_perform 58 = .ok (.bipush 20, 2) := by decide +kernel
theorem d_Led_perform_60 : decode b_Led_perform 60 = .ok (.isub, 1) := by decide +kernel
theorem d_Led_perform_61 : decode b_Led_perform 61 = .ok (.invokevirtual 147, 3) := by decide +kernel
theorem d_Led_perform_64 : decode b_Led_perform 64 = .ok (.astore 9, 2) := by decide +kernel
theorem d_Led_perform_66 : decode b_Led_perform 66 = .ok (.iload 5, 2) := by decide +kernel
theorem d_Led_perform_68 : decode b_Led_perform 68 = .ok (.aload 9, 2) := by decide +kernel
theorem d_Led_perform_70 : decode b_Led_perform 70 = .ok (.getfield 151, 3) := by decide +kernel
theorem d_Led_perform_73 : decode b_Led_perform 73 = .ok (.isub, 1) := by decide +kernel
theorem d_Led_perform_74 : decode b_Led_perform 74 = .ok (.istore 10, 2) := by decide +kernel
theorem d_Led_perform_76 : decode b_Led_perform 76 = .ok (.iload 10, 2) := by decide +kernel
theorem d_Led_perform_78 : decode b_Led_perform 78 = .ok (.iload 10, 2) := by decide +kernel
theorem d_Led_perform_80 : decode b_Led_perform 80 = .ok (.iconst 2, 1) := by decide +kernel
theorem d_Led_perform_81 : decode b_Led_perform 81 = .ok (.idiv, 1) := by decide +kernel
theorem d_Led_perform_82 : decode b_Led_perform 82 = .ok (.aload_n 0, 1) := by decide +kernel
theorem d_Led_perform_83 : decode b_Led_perform 83 = .ok (.getfield 10, 3) := by decide +kernel
theorem d_Led_perform_86 : decode b_Led_perform 86 = .ok (.getfield 156, 3) := by decide +kernel
theorem d_Led_perform_89 : decode b_Led_perform 89 = .ok (.invokestatic 159, 3) := by decide +kernel
theorem d_Led_perform_92 : decode b_Led_perform 92 = .ok (.isub, 1) := by decide +kernel
theorem d_Led_perform_93 : decode b_Led_perform 93 = .ok (.istore 11, 2) := by decide +kernel
theorem d_Led_perform_95 : decode b_Led_perform 95 = .ok (.aload 7, 2) := by decide +kernel
theorem d_Led_perform_97 : decode b_Led_perform 97 = .ok (.getfield 48, 3) := by decide +kernel
theorem d_Led_perform_100 : decode b_Led_perform 100 = .ok (.iload_n 1, 1) := by decide +kernel
theorem d_Led_perform_101 : decode b_Led_perform 101 = .ok (.dup2, 1) := by decide +kernel
theorem d_Led_perform_102 : decode b_Led_perform 102 = .ok (.iaload, 1) := by decide +kernel
theorem d_Led_perform_103 : decode b_Led_perform 103 = .ok (.iload 5, 2) := by decide +kernel
theorem d_Led_perform_105 : decode b_Led_perform 105 = .ok (.iload 11, 2) := by decide +kernel
theorem d_Led_perform_107 : decode b_Led_perform 107 = .ok (.isub, 1) := by decide +kernel
theorem d_Led_perform_108 : decode b_Led_perform 108 = .ok (.iload 6, 2) := by decide +kernel
theorem d_Led_perform_110 : decode b_Led_perform 110 = .ok (.imul, 1) := by decide +kernel
theorem d_Led_perform_111 : decode b_Led_perform 111 = .ok (.iadd, 1) := by decide +kernel
theorem d_Led_perform_112 : decode b_Led_perform 112 = .ok (.iastore, 1) := by decide +kernel
theorem d_Led_perform_113 : decode b_Led_perform 113 = .ok (.aload 7, 2) := by decide +kernel
theorem d_Led_perform_115 : decode b_Led_perform 115 = .ok (.getfield 48, 3) := by decide +kernel
theorem d_Led_perform_118 : decode b_Led_perform 118 = .ok (.aload_n 0, 1) := by decide +kernel
theorem d_Led_perform_119 : decode b_Led_perform 119 = .ok (.getfield 72, 3) := by decide +kernel
theorem d_Led_perform_122 : decode b_Led_perform 122 = .ok (.dup2, 1) := by decide +kernel
theorem d_Led_perform_123 : decode b_Led_perform 123 = .ok (.iaload, 1) := by decide +kernel
theorem d_Led_perform_124 : decode b_Led_perform 124 = .ok (.iload 11, 2) := by decide +kernel
theorem d_Led_perform_126 : decode b_Led_perform 126 = .ok (.iload 6, 2) := by decide +kernel
theorem d_Led_perform_128 : decode b_Led_perform 128 = .ok (.imul, 1) := by decide +kernel
theorem d_Led_perform_129 : decode b_Led_perform 129 = .ok (.iadd, 1) := by decide +kernel
theorem d_Led_perform_130 : decode b_Led_perform 130 = .ok (.iastore, 1) := by decide +kernel
theorem d_Led_perform_131 : decode b_Led_perform 131 = .ok (.aload_n 0, 1) := by decide +kernel
theorem d_Led_perform_132 : decode b_Led_perform 132 = .ok (.getfield 10, 3) := by decide +kernel
theorem d_Led_perform_135 : decode b_Led_perform 135 = .ok (.invokevirtual 164, 3) := by decide +kernel
theorem d_Led_perform_138 : decode b_Led_perform 138 = .ok (.aload_n 0, 1) := by decide +kernel
theorem d_Led_perform_139 : decode b_Led_perform 139 = .ok (.dup, 1) := by decide +kernel
theorem d_Led_perform_140 : decode b_Led_perform 140 = .ok (.getfield 75, 3) := by decide +kernel
theorem d_Led_perform_143 : decode b_Led_perform 143 = .ok (.iload 11, 2) := by decide +kernel
theorem d_Led_perform_145 : decode b_Led_perform 145 = .ok (.iadd, 1) := by decide +kernel
theorem d_Led_perform_146 : decode b_Led_perform 146 = .ok (.putfield 75, 3) := by decide +kernel
theorem d_Led_perform_149 : decode b_Led_perform 149 = .ok (.aload_n 0, 1) := by decide +kernel
theorem d_Led_perform_150 : decode b_Led_perform 150 = .ok (.getfield 26, 3) := by decide +kernel
theorem d_Led_perform_153 : decode b_Led_perform 153 = .ok (.aload 9, 2) := by decide +kernel
theorem d_Led_perform_155 : decode b_Led_perform 155 = .ok (.getfield 167, 3) := by decide +kernel
theorem d_Led_perform_158 : decode b_Led_perform 158 = .ok (.ifCond .eq 7, 3) := by decide +kernel
theorem d_Led_perform_161 : decode b_Led_perform 161 = .ok (.iconst 1, 1) := by decide +kernel
theorem d_Led_perform_162 : decode b_Led_perform 162 = .ok (.goto 4, 3) := by decide +kernel
theorem d_Led_perform_165 : decode b_Led_perform 165 = .ok (.iconst 0, 1) := by decide +kernel
theorem d_Led_perform_166 : decode b_Led_perform 166 = .ok (.iload 11, 2) := by decide +kernel
theorem d_Led_perform_168 : decode b_Led_perform 168 = .ok (.aload 9, 2) := by decide +kernel
theorem d_Led_perform_170 : decode b_Led_perform 170 = .ok (.getfield 170, 3) := by decide +kernel
theorem d_Led_perform_173 : decode b_Led_perform 173 = .ok (.aload_n 0, 1) := by decide +kernel
theorem d_Led_perform_174 : decode b_Led_perform 174 = .ok (.getfield 10, 3) := by decide +kernel
theorem d_Led_perform_177 : decode b_Led_perform 177 = .ok (.getfield 81, 3) := by decide +kernel
theorem d_Led_perform_180 : decode b_Led_perform 180 = .ok (.getfield 142, 3) := by decide +kernel
theorem d_Led_perform_183 : decode b_Led_perform 183 = .ok (.iload 8, 2) := by decide +kernel
theorem d_Led_perform_185 : decode b_Led_perform 185 = .ok (.isub, 1) := by decide +kernel
theorem d_Led_perform_186 : decode b_Led_perform 186 = .ok (.invokevirtual 173, 3) := by decide +kernel
theorem d_Led_perform_189 : decode b_Led_perform 189 = .ok (.iload 11, 2) := by decide +kernel
theorem d_Led_perform_191 : decode b_Led_perform 191 = .ok (.ireturn, 1) := by decide +kernel
theorem d_Led_isAccount_0 : decode b_Led_isAccount 0 = .ok (.iload_n 0, 1) := by decide +kernel
theorem d_Led_isAccount_1 : decode b_Led_isAccount 1 = .ok (.ifCond .lt 13, 3) := by decide +kernel
theorem d_Led_isAccount_4 : decode b_Led_isAccount 4 = .ok (.iload_n 0, 1) := by decide +kernel
theorem d_Led_isAccount_5 : decode b_Led_isAccount 5 = .ok (.bipush 16, 2) := by decide +kernel
theorem d_Led_isAccount_7 : decode b_Led_isAccount 7 = .ok (.if_icmp .ge 7, 3) := by decide +kernel
theorem d_Led_isAccount_10 : decode b_Led_isAccount 10 = .ok (.iconst 1, 1) := by decide +kernel
theorem d_Led_isAccount_11 : decode b_Led_isAccount 11 = .ok (.goto 4, 3) := by decide +kernel
theorem d_Led_isAccount_14 : decode b_Led_isAccount 14 = .ok (.iconst 0, 1) := by decide +kernel
theorem d_Led_isAccount_15 : decode b_Led_isAccount 15 = .ok (.ireturn, 1) := by decide +kernel
theorem d_Led_isSlot_0 : decode b_Led_isSlot 0 = .ok (.iload_n 0, 1) := by decide +kernel
theorem d_Led_isSlot_1 : decode b_Led_isSlot 1 = .ok (.ifCond .lt 13, 3) := by decide +kernel
theorem d_Led_isSlot_4 : decode b_Led_isSlot 4 = .ok (.iload_n 0, 1) := by decide +kernel
theorem d_Led_isSlot_5 : decode b_Led_isSlot 5 = .ok (.bipush 8, 2) := by decide +kernel
theorem d_Led_isSlot_7 : decode b_Led_isSlot 7 = .ok (.if_icmp .ge 7, 3) := by decide +kernel
theorem d_Led_isSlot_10 : decode b_Led_isSlot 10 = .ok (.iconst 1, 1) := by decide +kernel
theorem d_Led_isSlot_11 : decode b_Led_isSlot 11 = .ok (.goto 4, 3) := by decide +kernel
theorem d_Led_isSlot_14 : decode b_Led_isSlot 14 = .ok (.iconst 0, 1) := by decide +kernel
theorem d_Led_isSlot_15 : decode b_Led_isSlot 15 = .ok (.ireturn, 1) := by decide +kernel
theorem d_Mod_init_0 : decode b_Mod_init 0 = .ok (.aload_n 0, 1) := by decide +kernel
theorem d_Mod_init_1 : decode b_Mod_init 1 = .ok (.invokespecial 1, 3) := by decide +kernel
theorem d_Mod_init_4 : decode b_Mod_init 4 = .ok (.aload_n 0, 1) := by decide +kernel
theorem d_Mod_init_5 : decode b_Mod_init 5 = .ok (.sipush 576, 3) := by decide +kernel
theorem d_Mod_init_8 : decode b_Mod_init 8 = .ok (.newarray .int, 2) := by decide +kernel
theorem d_Mod_init_10 : decode b_Mod_init 10 = .ok (.putfield 7, 3) := by decide +kernel
theorem d_Mod_init_13 : decode b_Mod_init 13 = .ok (.aload_n 0, 1) := by decide +kernel
theorem d_Mod_init_14 : decode b_Mod_init 14 = .ok (.sipush 576, 3) := by decide +kernel
theorem d_Mod_init_17 : decode b_Mod_init 17 = .ok (.newarray .int, 2) := by decide +kernel
theorem d_Mod_init_19 : decode b_Mod_init 19 = .ok (.putfield 13, 3) := by decide +kernel
theorem d_Mod_init_22 : decode b_Mod_init 22 = .ok (.aload_n 0, 1) := by decide +kernel
theorem d_Mod_init_23 : decode b_Mod_init 23 = .ok (.bipush 64, 2) := by decide +kernel
theorem d_Mod_init_25 : decode b_Mod_init 25 = .ok (.newarray .int, 2) := by decide +kernel
theorem d_Mod_init_27 : decode b_Mod_init 27 = .ok (.putfield 16, 3) := by decide +kernel
theorem d_Mod_init_30 : decode b_Mod_init 30 = .ok (.aload_n 0, 1) := by decide +kernel
theorem d_Mod_init_31 : decode b_Mod_init 31 = .ok (.sipush 512, 3) := by decide +kernel
theorem d_Mod_init_34 : decode b_Mod_init 34 = .ok (.newarray .int, 2) := by decide +kernel
theorem d_Mod_init_36 : decode b_Mod_init 36 = .ok (.putfield 19, 3) := by decide +kernel
theorem d_Mod_init_39 : decode b_Mod_init 39 = .ok (.aload_n 0, 1) := by decide +kernel
theorem d_Mod_init_40 : decode b_Mod_init 40 = .ok (.sipush 512, 3) := by decide +kernel
theorem d_Mod_init_43 : decode b_Mod_init 43 = .ok (.newarray .int, 2) := by decide +kernel
theorem d_Mod_init_45 : decode b_Mod_init 45 = .ok (.putfield 22, 3) := by decide +kernel
theorem d_Mod_init_48 : decode b_Mod_init 48 = .ok (.aload_n 0, 1) := by decide +kernel
theorem d_Mod_init_49 : decode b_Mod_init 49 = .ok (.sipush 200, 3) := by decide +kernel
theorem d_Mod_init_52 : decode b_Mod_init 52 = .ok (.putfield 25, 3) := by decide +kernel
theorem d_Mod_init_55 : decode b_Mod_init 55 = .ok (.aload_n 0, 1) := by decide +kernel
theorem d_Mod_init_56 : decode b_Mod_init 56 = .ok (.iconst 1, 1) := by decide +kernel
theorem d_Mod_init_57 : decode b_Mod_init 57 = .ok (.putfield 29, 3) := by decide +kernel
theorem d_Mod_init_60 : decode b_Mod_init 60 = .ok (.aload_n 0, 1) := by decide +kernel
theorem d_Mod_init_61 : decode b_Mod_init 61 = .ok (.bipush 8, 2) := by decide +kernel
theorem d_Mod_init_63 : decode b_Mod_init 63 = .ok (.newarray .int, 2) := by decide +kernel
theorem d_Mod_init_65 : decode b_Mod_init 65 = .ok (.putfield 32, 3) := by decide +kernel
theorem d_Mod_init_68 : decode b_Mod_init 68 = .ok (.aload_n 0, 1) := by decide +kernel
theorem d_Mod_init_69 : decode b_Mod_init 69 = .ok (.bipush 8, 2) := by decide +kernel
theorem d_Mod_init_71 : decode b_Mod_init 71 = .ok (.newarray .int, 2) := by decide +kernel
theorem d_Mod_init_73 : decode b_Mod_init 73 = .ok (.putfield 35, 3) := by decide +kernel
theorem d_Mod_init_76 : decode b_Mod_init 76 = .ok (.aload_n 0, 1) := by decide +kernel
theorem d_Mod_init_77 : decode b_Mod_init 77 = .ok (.bipush 8, 2) := by decide +kernel
theorem d_Mod_init_79 : decode b_Mod_init 79 = .ok (.newarray .int, 2) := by decide +kernel
theorem d_Mod_init_81 : decode b_Mod_init 81 = .ok (.putfield 38, 3) := by decide +kernel
theorem d_Mod_init_84 : decode b_Mod_init 84 = .ok (.aload_n 0, 1) := by decide +kernel
theorem d_Mod_init_85 : decode b_Mod_init 85 = .ok (.bipush 8, 2) := by decide +kernel
theorem d_Mod_init_87 : decode b_Mod_init 87 = .ok (.newarray .int, 2) := by decide +kernel
theorem d_Mod_init_89 : decode b_Mod_init 89 = .ok (.putfield 41, 3) := by decide +kernel
theorem d_Mod_init_92 : decode b_Mod_init 92 = .ok (.aload_n 0, 1) := by decide +kernel
theorem d_Mod_init_93 : decode b_Mod_init 93 = .ok (.bipush 8, 2) := by decide +kernel
theorem d_Mod_init_95 : decode b_Mod_init 95 = .ok (.newarray .int, 2) := by decide +kernel
theorem d_Mod_init_97 : decode b_Mod_init 97 = .ok (.putfield 44, 3) := by decide +kernel
theorem d_Mod_init_100 : decode b_Mod_init 100 = .ok (.aload_n 0, 1) := by decide +kernel
theorem d_Mod_init_101 : decode b_Mod_init 101 = .ok (.bipush 8, 2) := by decide +kernel
theorem d_Mod_init_103 : decode b_Mod_init 103 = .ok (.newarray .int, 2) := by decide +kernel
theorem d_Mod_init_105 : decode b_Mod_init 105 = .ok (.putfield 47, 3) := by decide +kernel
theorem d_Mod_init_108 : decode b_Mod_init 108 = .ok (.aload_n 0, 1) := by decide +kernel
theorem d_Mod_init_109 : decode b_Mod_init 109 = .ok (.bipush 8, 2) := by decide +kernel
theorem d_Mod_init_111 : decode b_Mod_init 111 = .ok (.newarray .int, 2) := by decide +kernel
theorem d_Mod_init_113 : decode b_Mod_init 113 = .ok (.putfield 50, 3) := by decide +kernel
theorem d_Mod_init_116 : decode b_Mod_init 116 = .ok (.aload_n 0, 1) := by decide +kernel
theorem d_Mod_init_117 : decode b_Mod_init 117 = .ok (.bipush 8, 2) := by decide +kernel
theorem d_Mod_init_119 : decode b_Mod_init 119 = .ok (.newarray .int, 2) := by decide +kernel
theorem d_Mod_init_121 : decode b_Mod_init 121 = .ok (.putfield 53, 3) := by decide +kernel
theorem d_Mod_init_124 : decode b_Mod_init 124 = .ok (.aload_n 0, 1) := by decide +kernel
theorem d_Mod_init_125 : decode b_Mod_init 125 = .ok (.bipush 96, 2) := by decide +kernel
theorem d_Mod_init_127 : decode b_Mod_init 127 = .ok (.newarray .int, 2) := by decide +kernel
theorem d_Mod_init_129 : decode b_Mod_init 129 = .ok (.putfield 56, 3) := by decide +kernel
theorem d_Mod_init_132 : decode b_Mod_init 132 = .ok (.aload_n 0, 1) := by decide +kernel
theorem d_Mod_init_133 : decode b_Mod_init 133 = .ok (.sipush 4608, 3) := by decide +kernel
theorem d_Mod_init_136 : decode b_Mod_init 136 = .ok (.newarray .int, 2) := by decide +kernel
theorem d_Mod_init_138 : decode b_Mod_init 138 = .ok (.putfield 59, 3) := by decide +kernel
theorem d_Mod_init_141 : decode b_Mod_init 141 = .ok (.aload_n 0, 1) := by decide +kernel
theorem d_Mod_init_142 : decode b_Mod_init 142 = .ok (.bipush 8, 2) := by decide +kernel
theorem d_Mod_init_144 : decode b_Mod_init 144 = .ok (.newarray .int, 2) := by decide +kernel
theorem d_Mod_init_146 : decode b_Mod_init 146 = .ok (.putfield 62, 3) := by decide +kernel
theorem d_Mod_init_149 : decode b_Mod_init 149 = .ok (.aload_n 0, 1) := by decide +kernel
theorem d_Mod_init_150 : decode b_Mod_init 150 = .ok (.bipush 8, 2) := by decide +kernel
theorem d_Mod_init_152 : decode b_Mod_init 152 = .ok (.newarray .int, 2) := by decide +kernel
theorem d_Mod_init_154 : decode b_Mod_init 154 = .ok (.putfield 65, 3) := by decide +kernel
theorem d_Mod_init_157 : decode b_Mod_init 157 = .ok (.aload_n 0, 1) := by decide +kernel
theorem d_Mod_init_158 : decode b_Mod_init 158 = .ok (.bipush 32, 2) := by decide +kernel
theorem d_Mod_init_160 : decode b_Mod_init 160 = .ok (.newarray .int, 2) := by decide +kernel
theorem d_Mod_init_162 : decode b_Mod_init 162 = .ok (.putfield 68, 3) := by decide +kernel
theorem d_Mod_init_165 : decode b_Mod_init 165 = .ok (.aload_n 0, 1) := by decide +kernel
theorem d_Mod_init_166 : decode b_Mod_init 166 = .ok (.bipush 16, 2) := by decide +kernel
theorem d_Mod_init_168 : decode b_Mod_init 168 = .ok (.newarray .boolean, 2) := by decide +kernel
theorem d_Mod_init_170 : decode b_Mod_init 170 = .ok (.putfield 71, 3) := by decide +kernel
theorem d_Mod_init_173 : decode b_Mod_init 173 = .ok (.aload_n 0, 1) := by decide +kernel
theorem d_Mod_init_174 : decode b_Mod_init 174 = .ok (.bipush 16, 2) := by decide +kernel
theorem d_Mod_init_176 : decode b_Mod_init 176 = .ok (.newarray .int, 2) := by decide +kernel
theorem d_Mod_init_178 : decode b_Mod_init 178 = .ok (.putfield 75, 3) := by decide +kernel
theorem d_Mod_init_181 : decode b_Mod_init 181 = .ok (.aload_n 0, 1) := by decide +kernel
theorem d_Mod_init_182 : decode b_Mod_init 182 = .ok (.bipush 16, 2) := by decide +kernel
theorem d_Mod_init_184 : decode b_Mod_init 184 = .ok (.newarray .int, 2) := by decide +kernel
theorem d_Mod_init_186 : decode b_Mod_init 186 = .ok (.putfield 78, 3) := by decide +kernel
theorem d_Mod_init_189 : decode b_Mod_init 189 = .ok (.return_, 1) := by decide +kernel
theorem d_Mod_in_0 : decode b_Mod_in 0 = .ok (.iload_n 0, 1) := by decide +kernel
theorem d_Mod_in_1 : decode b_Mod_in 1 = .ok (.ifCond .lt 12, 3) := by decide +kernel
theorem d_Mod_in_4 : decode b_Mod_in 4 = .ok (.iload_n 0, 1) := by decide +kernel
theorem d_Mod_in_5 : decode b_Mod_in 5 = .ok (.iload_n 1, 1) := by decide +kernel
theorem d_Mod_in_6 : decode b_Mod_in 6 = .ok (.if_icmp .ge 7, 3) := by decide +kernel
theorem d_Mod_in_9 : decode b_Mod_in 9 = .ok (.iconst 1, 1) := by decide +kernel
theorem d_Mod_in_10 : decode b_Mod_in 10 = .ok (.goto 4, 3) := by decide +kernel
theorem d_Mod_in_13 : decode b_Mod_in 13 = .ok (.iconst 0, 1) := by decide +kernel
theorem d_Mod_in_14 : decode b_Mod_in 14 = .ok (.ireturn, 1) := by decide +kernel
theorem d_Mod_fund_0 : decode b_Mod_fund 0 = .ok (.iload_n 1, 1) := by decide +kernel
theorem d_Mod_fund_1 : decode b_Mod_fund 1 = .ok (.bipush 16, 2) := by decide +kernel
theorem d_Mod_fund_3 : decode b_Mod_fund 3 = .ok (.invokestatic 81, 3) := by decide +kernel
theorem d_Mod_fund_6 : decode b_Mod_fund 6 = .ok (.ifCond .eq 19, 3) := by decide +kernel
theorem d_Mod_fund_9 : decode b_Mod_fund 9 = .ok (.iload_n 2, 1) := by decide +kernel
theorem d_Mod_fund_10 : decode b_Mod_fund 10 = .ok (.ldc 85, 2) := by decide +kernel
theorem d_Mod_fund_12 : decode b_Mod_fund 12 = .ok (.invokestatic 81, 3) := by decide +kernel
theorem d_Mod_fund_15 : decode b_Mod_fund 15 = .ok (.ifCond .eq 10, 3) := by decide +kernel
theorem d_Mod_fund_18 : decode b_Mod_fund 18 = .ok (.aload_n 0, 1) := by decide +kernel
theorem d_Mod_fund_19 : decode b_Mod_fund 19 = .ok (.getfield 86, 3) := by decide +kernel
theorem d_Mod_fund_22 : decode b_Mod_fund 22 = .ok (.ifCond .le 5, 3) := by decide +kernel
theorem d_Mod_fund_25 : decode b_Mod_fund 25 = .ok (.iconst 0, 1) := by decide +kernel
theorem d_Mod_fund_26 : decode b_Mod_fund 26 = .ok (.ireturn, 1) := by decide +kernel
theorem d_Mod_fund_27 : decode b_Mod_fund 27 = .ok (.aload_n 0, 1) := by decide +kernel
theorem d_Mod_fund_28 : decode b_Mod_fund 28 = .ok (.getfield 7, 3) := by decide +kernel
theorem d_Mod_fund_31 : decode b_Mod_fund 31 = .ok (.bipush 36, 2) := by decide +kernel
theorem d_Mod_fund_33 : decode b_Mod_fund 33 = .ok (.iload_n 1, 1) := by decide +kernel
theorem d_Mod_fund_34 : decode b_Mod_fund 34 = .ok (.imul, 1) := by decide +kernel
theorem d_Mod_fund_35 : decode b_Mod_fund 35 = .ok (.dup2, 1) := by decide +kernel
theorem d_Mod_fund_36 : decode b_Mod_fund 36 = .ok (.iaload, 1) := by decide +kernel
theorem d_Mod_fund_37 : decode b_Mod_fund 37 = .ok (.iload_n 2, 1) := by decide +kernel
theorem d_Mod_fund_38 : decode b_Mod_fund 38 = .ok (.iadd, 1) := by decide +kernel
theorem d_Mod_fund_39 : decode b_Mod_fund 39 = .ok (.iastore, 1) := by decide +kernel
theorem d_Mod_fund_40 : decode b_Mod_fund 40 = .ok (.iconst 1, 1) := by decide +kernel
theorem d_Mod_fund_41 : decode b_Mod_fund 41 = .ok (.ireturn, 1) := by decide +kernel
theorem d_Mod_code_0 : decode b_Mod_code 0 = .ok (.iload_n 1, 1) := by decide +kernel
theorem d_Mod_code_1 : decode b_Mod_code 1 = .ok (.bipush 16, 2) := by decide +kernel
theorem d_Mod_code_3 : decode b_Mod_code 3 = .ok (.invokestatic 81, 3) := by decide +kernel
theorem d_Mod_code_6 : decode b_Mod_code 6 = .ok (.ifCond .eq 26, 3) := by decide +kernel
theorem d_Mod_code_9 : decode b_Mod_code 9 = .ok (.aload_n 0, 1) := by decide +kernel
theorem d_Mod_code_10 : decode b_Mod_code 10 = .ok (.getfield 86, 3) := by decide +kernel
theorem d_Mod_code_13 : decode b_Mod_code 13 = .ok (.ifCond .gt 19, 3) := by decide +kernel
theorem d_Mod_code_16 : decode b_Mod_code 16 = .ok (.aload_n 0, 1) := by decide +kernel
theorem d_Mod_code_17 : decode b_Mod_code 17 = .ok (.getfield 7, 3) := by decide +kernel
theorem d_Mod_code_20 : decode b_Mod_code 20 = .ok (.bipush 36, 2) := by decide +kernel
theorem d_Mod_code_22 : decode b_Mod_code 22 = .ok (.iload_n 1, 1) := by decide +kernel
theorem d_Mod_code_23 : decode b_Mod_code 23 = .ok (.imul, 1) := by decide +kernel
theorem d_Mod_code_24 : decode b_Mod_code 24 = .ok (.iconst 2, 1) := by decide +kernel
theorem d_Mod_code_25 : decode b_Mod_code 25 = .ok (.iadd, 1) := by decide +kernel
theorem d_Mod_code_26 : decode b_Mod_code 26 = .ok (.iaload, 1) := by decide +kernel
theorem d_Mod_code_27 : decode b_Mod_code 27 = .ok (.bipush 24, 2) := by decide +kernel
theorem d_Mod_code_29 : decode b_Mod_code 29 = .ok (.if_icmp .ne 5, 3) := by decide +kernel
theorem d_Mod_code_32 : decode b_Mod_code 32 = .ok (.iconst 0, 1) := by decide +kernel
theorem d_Mod_code_33 : decode b_Mod_code 33 = .ok (.ireturn, 1) := by decide +kernel
theorem d_Mod_code_34 : decode b_Mod_code 34 = .ok (.aload_n 0, 1) := by decide +kernel
theorem d_Mod_code_35 : decode b_Mod_code 35 = .ok (.getfield 7, 3) := by decide +kernel
theorem d_Mod_code_38 : decode b_Mod_code 38 = .ok (.bipush 36, 2) := by decide +kernel
theorem d_Mod_code_40 : decode b_Mod_code 40 = .ok (.iload_n 1, 1) := by decide +kernel
theorem d_Mod_code_41 : decode b_Mod_code 41 = .ok (.imul, 1) := by decide +kernel
theorem d_Mod_code_42 : decode b_Mod_code 42 = .ok (.iconst 2, 1) := by decide +kernel
theorem d_Mod_code_43 : decode b_Mod_code 43 = .ok (.iadd, 1) := by decide +kernel
theorem d_Mod_code_44 : decode b_Mod_code 44 = .ok (.iaload, 1) := by decide +kernel
theorem d_Mod_code_45 : decode b_Mod_code 45 = .ok (.istore_n 3, 1) := by decide +kernel
theorem d_Mod_code_46 : decode b_Mod_code 46 = .ok (.aload_n 0, 1) := by decide +kernel
theorem d_Mod_code_47 : decode b_Mod_code 47 = .ok (.getfield 7, 3) := by decide +kernel
theorem d_Mod_code_50 : decode b_Mod_code 50 = .ok (.bipush 36, 2) := by decide +kernel
theorem d_Mod_code_52 : decode b_Mod_code 52 = .ok (.iload_n 1, 1) := by decide +kernel
theorem d_Mod_code_53 : decode b_Mod_code 53 = .ok (.imul, 1) := by decide +kernel
theorem d_Mod_code_54 : decode b_Mod_code 54 = .ok (.iconst 3, 1) := by decide +kernel
theorem d_Mod_code_55 : decode b_Mod_code 55 = .ok (.iadd, 1) := by decide +kernel
theorem d_Mod_code_56 : decode b_Mod_code 56 = .ok (.iload_n 3, 1) := by decide +kernel
theorem d_Mod_code_57 : decode b_Mod_code 57 = .ok (.iadd, 1) := by decide +kernel
theorem d_Mod_code_58 : decode b_Mod_code 58 = .ok (.iload_n 2, 1) := by decide +kernel
theorem d_Mod_code_59 : decode b_Mod_code 59 = .ok (.iastore, 1) := by decide +kernel
theorem d_Mod_code_60 : decode b_Mod_code 60 = .ok (.aload_n 0, 1) := by decide +kernel
theorem d_Mod_code_61 : decode b_Mod_code 61 = .ok (.getfield 7, 3) := by decide +kernel
theorem d_Mod_code_64 : decode b_Mod_code 64 = .ok (.bipush 36, 2) := by decide +kernel
theorem d_Mod_code_66 : decode b_Mod_code 66 = .ok (.iload_n 1, 1) := by decide +kernel
theorem d_Mod_code_67 : decode b_Mod_code 67 = .ok (.imul, 1) := by decide +kernel
theorem d_Mod_code_68 : decode b_Mod_code 68 = .ok (.iconst 2, 1) := by decide +kernel
theorem d_Mod_code_69 : decode b_Mod_code 69 = .ok (.iadd, 1) := by decide +kernel
theorem d_Mod_code_70 : decode b_Mod_code 70 = .ok (.dup2, 1) := by decide +kernel
theorem d_Mod_code_71 : decode b_Mod_code 71 = .ok (.iaload, 1) := by decide +kernel
theorem d_Mod_code_72 : decode b_Mod_code 72 = .ok (.iconst 1, 1) := by decide +kernel
theorem d_Mod_code_73 : decode b_Mod_code 73 = .ok (.iadd, 1) := by decide +kernel
theorem d_Mod_code_74 : decode b_Mod_code 74 = .ok (.iastore, 1) := by decide +kernel
theorem d_Mod_code_75 : decode b_Mod_code 75 = .ok (.iconst 1, 1) := by decide +kernel
theorem d_Mod_code_76 : decode b_Mod_code 76 = .ok (.ireturn, 1) := by decide +kernel
theorem d_Mod_preset_0 : decode b_Mod_preset 0 = .ok (.iload_n 1, 1) := by decide +kernel
theorem d_Mod_preset_1 : decode b_Mod_preset 1 = .ok (.bipush 16, 2) := by decide +kernel
theorem d_Mod_preset_3 : decode b_Mod_preset 3 = .ok (.invokestatic 81, 3) := by decide +kernel
theorem d_Mod_preset_6 : decode b_Mod_preset 6 = .ok (.ifCond .eq 19, 3) := by decide +kernel
theorem d_Mod_preset_9 : decode b_Mod_preset 9 = .ok (.iload_n 2, 1) := by decide +kernel
theorem d_Mod_preset_10 : decode b_Mod_preset 10 = .ok (.bipush 8, 2) := by decide +kernel
theorem d_Mod_preset_12 : decode b_Mod_preset 12 = .ok (.invokestatic 81, 3) := by decide +kernel
theorem d_Mod_preset_15 : decode b_Mod_preset 15 = .ok (.ifCond .eq 10, 3) := by decide +kernel
theorem d_Mod_preset_18 : decode b_Mod_preset 18 = .ok (.aload_n 0, 1) := by decide +kernel
theorem d_Mod_preset_19 : decode b_Mod_preset 19 = .ok (.getfield 86, 3) := by decide +kernel
theorem d_Mod_preset_22 : decode b_Mod_preset 22 = .ok (.ifCond .le 5, 3) := by decide +kernel
theorem d_Mod_preset_25 : decode b_Mod_preset 25 = .ok (.iconst 0, 1) := by decide +kernel
theorem d_Mod_preset_26 : decode b_Mod_preset 26 = .ok (.ireturn, 1) := by decide +kernel
theorem d_Mod_preset_27 : decode b_Mod_preset 27 = .ok (.aload_n 0, 1) := by decide +kernel
theorem d_Mod_preset_28 : decode b_Mod_preset 28 = .ok (.getfield 7, 3) := by decide +kernel
theorem d_Mod_preset_31 : decode b_Mod_preset 31 = .ok (.bipush 36, 2) := by decide +kernel
theorem d_Mod_preset_33 : decode b_Mod_preset 33 = .ok (.iload_n 1, 1) := by decide +kernel
theorem d_Mod_preset_34 : decode b_Mod_preset 34 = .ok (.imul, 1) := by decide +kernel
theorem d_Mod_preset_35 : decode b_Mod_preset 35 = .ok (.bipush 27, 2) := by decide +kernel
theorem d_Mod_preset_37 : decode b_Mod_preset 37 = .ok (.iadd, 1) := by decide +kernel
theorem d_Mod_preset_38 : decode b_Mod_preset 38 = .ok (.iload_n 2, 1) := by decide +kernel
theorem d_Mod_preset_39 : decode b_Mod_preset 39 = .ok (.iadd, 1) := by decide +kernel
theorem d_Mod_preset_40 : decode b_Mod_preset 40 = .ok (.iload_n 3, 1) := by decide +kernel
theorem d_Mod_preset_41 : decode b_Mod_preset 41 = .ok (.iastore, 1) := by decide +kernel
theorem d_Mod_preset_42 : decode b_Mod_preset 42 = .ok (.iconst 1, 1) := by decide +kernel
theorem d_Mod_preset_43 : decode b_Mod_preset 43 = .ok (.ireturn, 1) := by decide +kernel
theorem d_Mod_mix_0 : decode b_Mod_mix 0 = .ok (.iload_n 0, 1) := by decide +kernel
theorem d_Mod_mix_1 : decode b_Mod_mix 1 = .ok (.ldc 89, 2) := by decide +kernel
theorem d_Mod_mix_3 : decode b_Mod_mix 3 = .ok (.imul, 1) := by decide +kernel
theorem d_Mod_mix_4 : decode b_Mod_mix 4 = .ok (.iload_n 1, 1) := by decide +kernel
theorem d_Mod_mix_5 : decode b_Mod_mix 5 = .ok (.iadd, 1) := by decide +kernel
theorem d_Mod_mix_6 : decode b_Mod_mix 6 = .ok (.istore_n 2, 1) := by decide +kernel
theorem d_Mod_mix_7 : decode b_Mod_mix 7 = .ok (.iload_n 2, 1) := by decide +kernel
theorem d_Mod_mix_8 : decode b_Mod_mix 8 = .ok (.iload_n 2, 1) := by decide +kernel
theorem d_Mod_mix_9 : decode b_Mod_mix 9 = .ok (.bipush 13, 2) := by decide +kernel
theorem d_Mod_mix_11 : decode b_Mod_mix 11 = .ok (.iushr, 1) := by decide +kernel
theorem d_Mod_mix_12 : decode b_Mod_mix 12 = .ok (.ixor, 1) := by decide +kernel
theorem d_Mod_mix_13 : decode b_Mod_mix 13 = .ok (.ireturn, 1) := by decide +kernel
theorem d_Mod_map_0 : decode b_Mod_map 0 = .ok (.iload_n 1, 1) := by decide +kernel
theorem d_Mod_map_1 : decode b_Mod_map 1 = .ok (.istore_n 2, 1) := by decide +kernel
theorem d_Mod_map_2 : decode b_Mod_map 2 = .ok (.iload_n 2, 1) := by decide +kernel
theorem d_Mod_map_3 : decode b_Mod_map 3 = .ok (.ifCond .lt 41, 3) := by decide +kernel
theorem d_Mod_map_6 : decode b_Mod_map 6 = .ok (.iconst 0, 1) := by decide +kernel
theorem d_Mod_map_7 : decode b_Mod_map 7 = .ok (.istore_n 3, 1) := by decide +kernel
theorem d_Mod_map_8 : decode b_Mod_map 8 = .ok (.iload_n 3, 1) := by decide +kernel
theorem d_Mod_map_9 : decode b_Mod_map 9 = .ok (.iconst 1, 1) := by decide +kernel
theorem d_Mod_map_10 : decode b_Mod_map 10 = .ok (.iload_n 2, 1) := by decide +kernel
theorem d_Mod_map_11 : decode b_Mod_map 11 = .ok (.ishl, 1) := by decide +kernel
theorem d_Mod_map_12 : decode b_Mod_map 12 = .ok (.if_icmp .ge 26, 3) := by decide +kernel
theorem d_Mod_map_15 : decode b_Mod_map 15 = .ok (.aload_n 0, 1) := by decide +kernel
theorem d_Mod_map_16 : decode b_Mod_map 16 = .ok (.getfield 68, 3) := by decide +kernel
theorem d_Mod_map_19 : decode b_Mod_map 19 = .ok (.iconst 1, 1) := by decide +kernel
theorem d_Mod_map_20 : decode b_Mod_map 20 = .ok (.iload_n 2, 1) := by decide +kernel
theorem d_Mod_map_21 : decode b_Mod_map 21 = .ok (.ishl, 1) := by decide +kernel
theorem d_Mod_map_22 : decode b_Mod_map 22 = .ok (.iload_n 3, 1) := by decide +kernel
theorem d_Mod_map_23 : decode b_Mod_map 23 = .ok (.iadd, 1) := by decide +kernel
theorem d_Mod_map_24 : decode b_Mod_map 24 = .ok (.aload_n 0, 1) := by decide +kernel
theorem d_Mod_map_25 : decode b_Mod_map 25 = .ok (.iload_n 1, 1) := by decide +kernel
theorem d_Mod_map_26 : decode b_Mod_map 26 = .ok (.iload_n 2, 1) := by decide +kernel
theorem d_Mod_map_27 : decode b_Mod_map 27 = .ok (.iload_n 3, 1) := by decide +kernel
theorem d_Mod_map_28 : decode b_Mod_map 28 = .ok (.invokevirtual 90, 3) := by decide +kernel
theorem d_Mod_map_31 : decode b_Mod_map 31 = .ok (.iastore, 1) := by decide +kernel
theorem d_Mod_map_32 : decode b_Mod_map 32 = .ok (.iinc 3 1, 3) := by decide +kernel
theorem d_Mod_map_35 : decode b_Mod_map 35 = .ok (.goto (-27), 3) := by decide +kernel
theorem d_Mod_map_38 : decode b_Mod_map 38 = .ok (.iinc 2 (-1), 3) := by decide +kernel
theorem d_Mod_map_41 : decode b_Mod_map 41 = .ok (.goto (-39), 3) := by decide +kernel
theorem d_Mod_map_44 : decode b_Mod_map 44 = .ok (.aload_n 0, 1) := by decide +kernel
theorem d_Mod_map_45 : decode b_Mod_map 45 = .ok (.getfield 68, 3) := by decide +kernel
theorem d_Mod_map_48 : decode b_Mod_map 48 = .ok (.iconst 1, 1) := by decide +kernel
theorem d_Mod_map_49 : decode b_Mod_map 49 = .ok (.iaload, 1) := by decide +kernel
theorem d_Mod_map_50 : decode b_Mod_map 50 = .ok (.ireturn, 1) := by decide +kernel
end
section
theorem d_Mod_part_0 : decode b_Mod_part 0 = .ok (.iload_n 1, 1) := by decide +kernel
theorem d_Mod_part_1 : decode b_Mod_part 1 = .ok (.iload_n 2, 1) := by decide +kernel
theorem d_Mod_part_2 : decode b_Mod_part 2 = .ok (.isub, 1) := by decide +kernel
theorem d_Mod_part_3 : decode b_Mod_part 3 = .ok (.istore 4, 2) := by decide +kernel
theorem d_Mod_part_5 : decode b_Mod_part 5 = .ok (.iconst 0, 1) := by decide +kernel
theorem d_Mod_part_6 : decode b_Mod_part 6 = .ok (.istore 5, 2) := by decide +kernel
theorem d_Mod_part_8 : decode b_Mod_part 8 = .ok (.iconst (-1), 1) := by decide +kernel
theorem d_Mod_part_9 : decode b_Mod_part 9 = .ok (.istore 6, 2) := by decide +kernel
theorem d_Mod_part_11 : decode b_Mod_part 11 = .ok (.iconst (-1), 1) := by decide +kernel
theorem d_Mod_part_12 : decode b_Mod_part 12 = .ok (.istore 7, 2) := by decide +kernel
theorem d_Mod_part_14 : decode b_Mod_part 14 = .ok (.iload_n 3, 1) := by decide +kernel
theorem d_Mod_part_15 : decode b_Mod_part 15 = .ok (.iload 4, 2) := by decide +kernel
theorem d_Mod_part_17 : decode b_Mod_part 17 = .ok (.ishl, 1) := by decide +kernel
theorem d_Mod_part_18 : decode b_Mod_part 18 = .ok (.istore 8, 2) := by decide +kernel
theorem d_Mod_part_20 : decode b_Mod_part 20 = .ok (.iload 8, 2) := by decide +kernel
theorem d_Mod_part_22 : decode b_Mod_part 22 = .ok (.iload_n 3, 1) := by decide +kernel
theorem d_Mod_part_23 : decode b_Mod_part 23 = .ok (.iconst 1, 1) := by decide +kernel
theorem d_Mod_part_24 : decode b_Mod_part 24 = .ok (.iadd, 1) := by decide +kernel
theorem d_Mod_part_25 : decode b_Mod_part 25 = .ok (.iload 4, 2) := by decide +kernel
theorem d_Mod_part_27 : decode b_Mod_part 27 = .ok (.ishl, 1) := by decide +kernel
theorem d_Mod_part_28 : decode b_Mod_part 28 = .ok (.if_icmp .ge 40, 3) := by decide +kernel
theorem d_Mod_part_31 : decode b_Mod_part 31 = .ok (.aload_n 0, 1) := by decide +kernel
theorem d_Mod_part_32 : decode b_Mod_part 32 = .ok (.getfield 71, 3) := by decide +kernel
theorem d_Mod_part_35 : decode b_Mod_part 35 = .ok (.iload 8, 2) := by decide +kernel
theorem d_Mod_part_37 : decode b_Mod_part 37 = .ok (.baload, 1) := by decide +kernel
theorem d_Mod_part_38 : decode b_Mod_part 38 = .ok (.ifCond .eq 24, 3) := by decide +kernel
theorem d_Mod_part_41 : decode b_Mod_part 41 = .ok (.iload 5, 2) := by decide +kernel
theorem d_Mod_part_43 : decode b_Mod_part 43 = .ok (.ifCond .ne 8, 3) := by decide +kernel
theorem d_Mod_part_46 : decode b_Mod_part 46 = .ok (.iload 8, 2) := by decide +kernel
theorem d_Mod_part_48 : decode b_Mod_part 48 = .ok (.goto 5, 3) := by decide +kernel
theorem d_Mod_part_51 : decode b_Mod_part 51 = .ok (.iload 6, 2) := by decide +kernel
theorem d_Mod_part_53 : decode b_Mod_part 53 = .ok (.istore 6, 2) := by decide +kernel
theorem d_Mod_part_55 : decode b_Mod_part 55 = .ok (.iload 8, 2) := by decide +kernel
theorem d_Mod_part_57 : decode b_Mod_part 57 = .ok (.istore 7, 2) := by decide +kernel
theorem d_Mod_part_59 : decode b_Mod_part 59 = .ok (.iinc 5 1, 3) := by decide +kernel
theorem d_Mod_part_62 : decode b_Mod_part 62 = .ok (.iinc 8 1, 3) := by decide +kernel
theorem d_Mod_part_65 : decode b_Mod_part 65 = .ok (.goto (-45), 3) := by decide +kernel
theorem d_Mod_part_68 : decode b_Mod_part 68 = .ok (.iload 5, 2) := by decide +kernel
theorem d_Mod_part_70 : decode b_Mod_part 70 = .ok (.ifCond .ne 5, 3) := by decide +kernel
theorem d_Mod_part_73 : decode b_Mod_part 73 = .ok (.iconst 0, 1) := by decide +kernel
theorem d_Mod_part_74 : decode b_Mod_part 74 = .ok (.ireturn, 1) := by decide +kernel
theorem d_Mod_part_75 : decode b_Mod_part 75 = .ok (.iload 5, 2) := by decide +kernel
theorem d_Mod_part_77 : decode b_Mod_part 77 = .ok (.iconst 1, 1) := by decide +kernel
theorem d_Mod_part_78 : decode b_Mod_part 78 = .ok (.if_icmp .ne 30, 3) := by decide +kernel
theorem d_Mod_part_81 : decode b_Mod_part 81 = .ok (.iconst 1, 1) := by decide +kernel
theorem d_Mod_part_82 : decode b_Mod_part 82 = .ok (.iconst 1, 1) := by decide +kernel
theorem d_Mod_part_83 : decode b_Mod_part 83 = .ok (.iload 4, 2) := by decide +kernel
theorem d_Mod_part_85 : decode b_Mod_part 85 = .ok (.ishl, 1) := by decide +kernel
theorem d_Mod_part_86 : decode b_Mod_part 86 = .ok (.iload 6, 2) := by decide +kernel
theorem d_Mod_part_88 : decode b_Mod_part 88 = .ok (.iload_n 3, 1) := by decide +kernel
theorem d_Mod_part_89 : decode b_Mod_part 89 = .ok (.iload 4, 2) := by decide +kernel
theorem d_Mod_part_91 : decode b_Mod_part 91 = .ok (.ishl, 1) := by decide +kernel
theorem d_Mod_part_92 : decode b_Mod_part 92 = .ok (.isub, 1) := by decide +kernel
theorem d_Mod_part_93 : decode b_Mod_part 93 = .ok (.ior, 1) := by decide +kernel
theorem d_Mod_part_94 : decode b_Mod_part 94 = .ok (.invokestatic 94, 3) := by decide +kernel
theorem d_Mod_part_97 : decode b_Mod_part 97 = .ok (.aload_n 0, 1) := by decide +kernel
theorem d_Mod_part_98 : decode b_Mod_part 98 = .ok (.getfield 75, 3) := by decide +kernel
theorem d_Mod_part_101 : decode b_Mod_part 101 = .ok (.iload 6, 2) := by decide +kernel
theorem d_Mod_part_103 : decode b_Mod_part 103 = .ok (.iaload, 1) := by decide +kernel
theorem d_Mod_part_104 : decode b_Mod_part 104 = .ok (.invokestatic 94, 3) := by decide +kernel
theorem d_Mod_part_107 : decode b_Mod_part 107 = .ok (.ireturn, 1) := by decide +kernel
theorem d_Mod_part_108 : decode b_Mod_part 108 = .ok (.iconst 0, 1) := by decide +kernel
theorem d_Mod_part_109 : decode b_Mod_part 109 = .ok (.istore 8, 2) := by decide +kernel
theorem d_Mod_part_111 : decode b_Mod_part 111 = .ok (.iload 6, 2) := by decide +kernel
theorem d_Mod_part_113 : decode b_Mod_part 113 = .ok (.iload 4, 2) := by decide +kernel
theorem d_Mod_part_115 : decode b_Mod_part 115 = .ok (.iload 8, 2) := by decide +kernel
theorem d_Mod_part_117 : decode b_Mod_part 117 = .ok (.isub, 1) := by decide +kernel
theorem d_Mod_part_118 : decode b_Mod_part 118 = .ok (.iconst 1, 1) := by decide +kernel
theorem d_Mod_part_119 : decode b_Mod_part 119 = .ok (.isub, 1) := by decide +kernel
theorem d_Mod_part_120 : decode b_Mod_part 120 = .ok (.ishr, 1) := by decide +kernel
theorem d_Mod_part_121 : decode b_Mod_part 121 = .ok (.iload 7, 2) := by decide +kernel
theorem d_Mod_part_123 : decode b_Mod_part 123 = .ok (.iload 4, 2) := by decide +kernel
theorem d_Mod_part_125 : decode b_Mod_part 125 = .ok (.iload 8, 2) := by decide +kernel
theorem d_Mod_part_127 : decode b_Mod_part 127 = .ok (.isub, 1) := by decide +kernel
theorem d_Mod_part_128 : decode b_Mod_part 128 = .ok (.iconst 1, 1) := by decide +kernel
theorem d_Mod_part_129 : decode b_Mod_part 129 = .ok (.isub, 1) := by decide +kernel
theorem d_Mod_part_130 : decode b_Mod_part 130 = .ok (.ishr, 1) := by decide +kernel
theorem d_Mod_part_131 : decode b_Mod_part 131 = .ok (.if_icmp .ne 9, 3) := by decide +kernel
theorem d_Mod_part_134 : decode b_Mod_part 134 = .ok (.iinc 8 1, 3) := by decide +kernel
theorem d_Mod_part_137 : decode b_Mod_part 137 = .ok (.goto (-26), 3) := by decide +kernel
theorem d_Mod_part_140 : decode b_Mod_part 140 = .ok (.iload 8, 2) := by decide +kernel
theorem d_Mod_part_142 : decode b_Mod_part 142 = .ok (.ifCond .ne 37, 3) := by decide +kernel
theorem d_Mod_part_145 : decode b_Mod_part 145 = .ok (.iconst 3, 1) := by decide +kernel
theorem d_Mod_part_146 : decode b_Mod_part 146 = .ok (.aload_n 0, 1) := by decide +kernel
theorem d_Mod_part_147 : decode b_Mod_part 147 = .ok (.getfield 68, 3) := by decide +kernel
theorem d_Mod_part_150 : decode b_Mod_part 150 = .ok (.iconst 2, 1) := by decide +kernel
theorem d_Mod_part_151 : decode b_Mod_part 151 = .ok (.iload_n 2, 1) := by decide +kernel
theorem d_Mod_part_152 : decode b_Mod_part 152 = .ok (.ishl, 1) := by decide +kernel
theorem d_Mod_part_153 : decode b_Mod_part 153 = .ok (.iconst 2, 1) := by decide +kernel
theorem d_Mod_part_154 : decode b_Mod_part 154 = .ok (.iload_n 3, 1) := by decide +kernel
theorem d_Mod_part_155 : decode b_Mod_part 155 = .ok (.imul, 1) := by decide +kernel
theorem d_Mod_part_156 : decode b_Mod_part 156 = .ok (.iadd, 1) := by decide +kernel
theorem d_Mod_part_157 : decode b_Mod_part 157 = .ok (.iaload, 1) := by decide +kernel
theorem d_Mod_part_158 : decode b_Mod_part 158 = .ok (.invokestatic 94, 3) := by decide +kernel
theorem d_Mod_part_161 : decode b_Mod_part 161 = .ok (.aload_n 0, 1) := by decide +kernel
theorem d_Mod_part_162 : decode b_Mod_part 162 = .ok (.getfield 68, 3) := by decide +kernel
theorem d_Mod_part_165 : decode b_Mod_part 165 = .ok (.iconst 2, 1) := by decide +kernel
theorem d_Mod_part_166 : decode b_Mod_part 166 = .ok (.iload_n 2, 1) := by decide +kernel
theorem d_Mod_part_167 : decode b_Mod_part 167 = .ok (.ishl, 1) := by decide +kernel
theorem d_Mod_part_168 : decode b_Mod_part 168 = .ok (.iconst 2, 1) := by decide +kernel
theorem d_Mod_part_169 : decode b_Mod_part 169 = .ok (.iload_n 3, 1) := by decide +kernel
theorem d_Mod_part_170 : decode b_Mod_part 170 = .ok (.imul, 1) := by decide +kernel
theorem d_Mod_part_171 : decode b_Mod_part 171 = .ok (.iadd, 1) := by decide +kernel
theorem d_Mod_part_172 : decode b_Mod_part 172 = .ok (.iconst 1, 1) := by decide +kernel
theorem d_Mod_part_173 : decode b_Mod_part 173 = .ok (.iadd, 1) := by decide +kernel
theorem d_Mod_part_174 : decode b_Mod_part 174 = .ok (.iaload, 1) := by decide +kernel
theorem d_Mod_part_175 : decode b_Mod_part 175 = .ok (.invokestatic 94, 3) := by decide +kernel
theorem d_Mod_part_178 : decode b_Mod_part 178 = .ok (.ireturn, 1) := by decide +kernel
theorem d_Mod_part_179 : decode b_Mod_part 179 = .ok (.iload 6, 2) := by decide +kernel
theorem d_Mod_part_181 : decode b_Mod_part 181 = .ok (.iload 4, 2) := by decide +kernel
theorem d_Mod_part_183 : decode b_Mod_part 183 = .ok (.iload 8, 2) := by decide +kernel
theorem d_Mod_part_185 : decode b_Mod_part 185 = .ok (.isub, 1) := by decide +kernel
theorem d_Mod_part_186 : decode b_Mod_part 186 = .ok (.ishr, 1) := by decide +kernel
theorem d_Mod_part_187 : decode b_Mod_part 187 = .ok (.istore 9, 2) := by decide +kernel
theorem d_Mod_part_189 : decode b_Mod_part 189 = .ok (.iconst 2, 1) := by decide +kernel
theorem d_Mod_part_190 : decode b_Mod_part 190 = .ok (.iconst 1, 1) := by decide +kernel
theorem d_Mod_part_191 : decode b_Mod_part 191 = .ok (.iload 8, 2) := by decide +kernel
theorem d_Mod_part_193 : decode b_Mod_part 193 = .ok (.ishl, 1) := by decide +kernel
theorem d_Mod_part_194 : decode b_Mod_part 194 = .ok (.iload 9, 2) := by decide +kernel
theorem d_Mod_part_196 : decode b_Mod_part 196 = .ok (.iload_n 3, 1) := by decide +kernel
theorem d_Mod_part_197 : decode b_Mod_part 197 = .ok (.iload 8, 2) := by decide +kernel
theorem d_Mod_part_199 : decode b_Mod_part 199 = .ok (.ishl, 1) := by decide +kernel
theorem d_Mod_part_200 : decode b_Mod_part 200 = .ok (.isub, 1) := by decide +kernel
theorem d_Mod_part_201 : decode b_Mod_part 201 = .ok (.ior, 1) := by decide +kernel
theorem d_Mod_part_202 : decode b_Mod_part 202 = .ok (.invokestatic 94, 3) := by decide +kernel
theorem d_Mod_part_205 : decode b_Mod_part 205 = .ok (.aload_n 0, 1) := by decide +kernel
theorem d_Mod_part_206 : decode b_Mod_part 206 = .ok (.getfield 68, 3) := by decide +kernel
theorem d_Mod_part_209 : decode b_Mod_part 209 = .ok (.iconst 1, 1) := by decide +kernel
theorem d_Mod_part_210 : decode b_Mod_part 210 = .ok (.iload_n 2, 1) := by decide +kernel
theorem d_Mod_part_211 : decode b_Mod_part 211 = .ok (.iload 8, 2) := by decide +kernel
theorem d_Mod_part_213 : decode b_Mod_part 213 = .ok (.iadd, 1) := by decide +kernel
theorem d_Mod_part_214 : decode b_Mod_part 214 = .ok (.ishl, 1) := by decide +kernel
theorem d_Mod_part_215 : decode b_Mod_part 215 = .ok (.iload 9, 2) := by decide +kernel
theorem d_Mod_part_217 : decode b_Mod_part 217 = .ok (.iadd, 1) := by decide +kernel
theorem d_Mod_part_218 : decode b_Mod_part 218 = .ok (.iaload, 1) := by decide +kernel
theorem d_Mod_part_219 : decode b_Mod_part 219 = .ok (.invokestatic 94, 3) := by decide +kernel
theorem d_Mod_part_222 : decode b_Mod_part 222 = .ok (.ireturn, 1) := by decide +kernel
theorem d_Mod_slotsRoot_0 : decode b_Mod_slotsRoot 0 = .ok (.iconst 0, 1) := by decide +kernel
theorem d_Mod_slotsRoot_1 : decode b_Mod_slotsRoot 1 = .ok (.istore_n 2, 1) := by decide +kernel
theorem d_Mod_slotsRoot_2 : decode b_Mod_slotsRoot 2 = .ok (.iload_n 2, 1) := by decide +kernel
theorem d_Mod_slotsRoot_3 : decode b_Mod_slotsRoot 3 = .ok (.bipush 8, 2) := by decide +kernel
theorem d_Mod_slotsRoot_5 : decode b_Mod_slotsRoot 5 = .ok (.if_icmp .ge 49, 3) := by decide +kernel
theorem d_Mod_slotsRoot_8 : decode b_Mod_slotsRoot 8 = .ok (.aload_n 0, 1) := by decide +kernel
theorem d_Mod_slotsRoot_9 : decode b_Mod_slotsRoot 9 = .ok (.getfield 75, 3) := by decide +kernel
theorem d_Mod_slotsRoot_12 : decode b_Mod_slotsRoot 12 = .ok (.iload_n 2, 1) := by decide +kernel
theorem d_Mod_slotsRoot_13 : decode b_Mod_slotsRoot 13 = .ok (.aload_n 0, 1) := by decide +kernel
theorem d_Mod_slotsRoot_14 : decode b_Mod_slotsRoot 14 = .ok (.getfield 7, 3) := by decide +kernel
theorem d_Mod_slotsRoot_17 : decode b_Mod_slotsRoot 17 = .ok (.bipush 36, 2) := by decide +kernel
theorem d_Mod_slotsRoot_19 : decode b_Mod_slotsRoot 19 = .ok (.iload_n 1, 1) := by decide +kernel
theorem d_Mod_slotsRoot_20 : decode b_Mod_slotsRoot 20 = .ok (.imul, 1) := by decide +kernel
theorem d_Mod_slotsRoot_21 : decode b_Mod_slotsRoot 21 = .ok (.bipush 27, 2) := by decide +kernel
theorem d_Mod_slotsRoot_23 : decode b_Mod_slotsRoot 23 = .ok (.iadd, 1) := by decide +kernel
theorem d_Mod_slotsRoot_24 : decode b_Mod_slotsRoot 24 = .ok (.iload_n 2, 1) := by decide +kernel
theorem d_Mod_slotsRoot_25 : decode b_Mod_slotsRoot 25 = .ok (.iadd, 1) := by decide +kernel
theorem d_Mod_slotsRoot_26 : decode b_Mod_slotsRoot 26 = .ok (.iaload, 1) := by decide +kernel
theorem d_Mod_slotsRoot_27 : decode b_Mod_slotsRoot 27 = .ok (.iastore, 1) := by decide +kernel
theorem d_Mod_slotsRoot_28 : decode b_Mod_slotsRoot 28 = .ok (.aload_n 0, 1) := by decide +kernel
theorem d_Mod_slotsRoot_29 : decode b_Mod_slotsRoot 29 = .ok (.getfield 71, 3) := by decide +kernel
theorem d_Mod_slotsRoot_32 : decode b_Mod_slotsRoot 32 = .ok (.iload_n 2, 1) := by decide +kernel
theorem d_Mod_slotsRoot_33 : decode b_Mod_slotsRoot 33 = .ok (.aload_n 0, 1) := by decide +kernel
theorem d_Mod_slotsRoot_34 : decode b_Mod_slotsRoot 34 = .ok (.getfield 75, 3) := by decide +kernel
theorem d_Mod_slotsRoot_37 : decode b_Mod_slotsRoot 37 = .ok (.iload_n 2, 1) := by decide +kernel
theorem d_Mod_slotsRoot_38 : decode b_Mod_slotsRoot 38 = .ok (.iaload, 1) := by decide +kernel
theorem d_Mod_slotsRoot_39 : decode b_Mod_slotsRoot 39 = .ok (.ifCond .eq 7, 3) := by decide +kernel
theorem d_Mod_slotsRoot_42 : decode b_Mod_slotsRoot 42 = .ok (.iconst 1, 1) := by decide +kernel
theorem d_Mod_slotsRoot_43 : decode b_Mod_slotsRoot 43 = .ok (.goto 4, 3) := by decide +kernel
theorem d_Mod_slotsRoot_46 : decode b_Mod_slotsRoot 46 = .ok (.iconst 0, 1) := by decide +kernel
theorem d_Mod_slotsRoot_47 : decode b_Mod_slotsRoot 47 = .ok (.bastore, 1) := by decide +kernel
theorem d_Mod_slotsRoot_48 : decode b_Mod_slotsRoot 48 = .ok (.iinc 2 1, 3) := by decide +kernel
theorem d_Mod_slotsRoot_51 : decode b_Mod_slotsRoot 51 = .ok (.goto (-49), 3) := by decide +kernel
theorem d_Mod_slotsRoot_54 : decode b_Mod_slotsRoot 54 = .ok (.aload_n 0, 1) := by decide +kernel
theorem d_Mod_slotsRoot_55 : decode b_Mod_slotsRoot 55 = .ok (.iconst 3, 1) := by decide +kernel
theorem d_Mod_slotsRoot_56 : decode b_Mod_slotsRoot 56 = .ok (.invokevirtual 98, 3) := by decide +kernel
theorem d_Mod_slotsRoot_59 : decode b_Mod_slotsRoot 59 = .ok (.ireturn, 1) := by decide +kernel
theorem d_Mod_valueOf_0 : decode b_Mod_valueOf 0 = .ok (.iconst 5, 1) := by decide +kernel
theorem d_Mod_valueOf_1 : decode b_Mod_valueOf 1 = .ok (.istore_n 2, 1) := by decide +kernel
theorem d_Mod_valueOf_2 : decode b_Mod_valueOf 2 = .ok (.iconst 0, 1) := by decide +kernel
theorem d_Mod_valueOf_3 : decode b_Mod_valueOf 3 = .ok (.istore_n 3, 1) := by decide +kernel
theorem d_Mod_valueOf_4 : decode b_Mod_valueOf 4 = .ok (.iload_n 3, 1) := by decide +kernel
theorem d_Mod_valueOf_5 : decode b_Mod_valueOf 5 = .ok (.aload_n 0, 1) := by decide +kernel
theorem d_Mod_valueOf_6 : decode b_Mod_valueOf 6 = .ok (.getfield 7, 3) := by decide +kernel
theorem d_Mod_valueOf_9 : decode b_Mod_valueOf 9 = .ok (.bipush 36, 2) := by decide +kernel
theorem d_Mod_valueOf_11 : decode b_Mod_valueOf 11 = .ok (.iload_n 1, 1) := by decide +kernel
theorem d_Mod_valueOf_12 : decode b_Mod_valueOf 12 = .ok (.imul, 1) := by decide +kernel
theorem d_Mod_valueOf_13 : decode b_Mod_valueOf 13 = .ok (.iconst 2, 1) := by decide +kernel
theorem d_Mod_valueOf_14 : decode b_Mod_valueOf 14 = .ok (.iadd, 1) := by decide +kernel
theorem d_Mod_valueOf_15 : decode b_Mod_valueOf 15 = .ok (.iaload, 1) := by decide +kernel
theorem d_Mod_valueOf_16 : decode b_Mod_valueOf 16 = .ok (.if_icmp .ge 27, 3) := by decide +kernel
theorem d_Mod_valueOf_19 : decode b_Mod_valueOf 19 = .ok (.iload_n 2, 1) := by decide +kernel
theorem d_Mod_valueOf_20 : decode b_Mod_valueOf 20 = .ok (.aload_n 0, 1) := by decide +kernel
theorem d_Mod_valueOf_21 : decode b_Mod_valueOf 21 = .ok (.getfield 7, 3) := by decide +kernel
theorem d_Mod_valueOf_24 : decode b_Mod_valueOf 24 = .ok (.bipush 36, 2) := by decide +kernel
theorem d_Mod_valueOf_26 : decode b_Mod_valueOf 26 = .ok (.iload_n 1, 1) := by decide +kernel
theorem d_Mod_valueOf_27 : decode b_Mod_valueOf 27 = .ok (.imul, 1) := by decide +kernel
theorem d_Mod_valueOf_28 : decode b_Mod_valueOf 28 = .ok (.iconst 3, 1) := by decide +kernel
theorem d_Mod_valueOf_29 : decode b_Mod_valueOf 29 = .ok (.iadd, 1) := by decide +kernel
theorem d_Mod_valueOf_30 : decode b_Mod_valueOf 30 = .ok (.iload_n 3, 1) := by decide +kernel
theorem d_Mod_valueOf_31 : decode b_Mod_valueOf 31 = .ok (.iadd, 1) := by decide +kernel
theorem d_Mod_valueOf_32 : decode b_Mod_valueOf 32 = .ok (.iaload, 1) := by decide +kernel
theorem d_Mod_valueOf_33 : decode b_Mod_valueOf 33 = .ok (.invokestatic 94, 3) := by decide +kernel
theorem d_Mod_valueOf_36 : decode b_Mod_valueOf 36 = .ok (.istore_n 2, 1) := by decide +kernel
theorem d_Mod_valueOf_37 : decode b_Mod_valueOf 37 = .ok (.iinc 3 1, 3) := by decide +kernel
theorem d_Mod_valueOf_40 : decode b_Mod_valueOf 40 = .ok (.goto (-36), 3) := by decide +kernel
theorem d_Mod_valueOf_43 : decode b_Mod_valueOf 43 = .ok (.aload_n 0, 1) := by decide +kernel
theorem d_Mod_valueOf_44 : decode b_Mod_valueOf 44 = .ok (.iload_n 1, 1) := by decide +kernel
theorem d_Mod_valueOf_45 : decode b_Mod_valueOf 45 = .ok (.invokevirtual 102, 3) := by decide +kernel
theorem d_Mod_valueOf_48 : decode b_Mod_valueOf 48 = .ok (.istore_n 3, 1) := by decide +kernel
theorem d_Mod_valueOf_49 : decode b_Mod_valueOf 49 = .ok (.iconst 4, 1) := by decide +kernel
theorem d_Mod_valueOf_50 : decode b_Mod_valueOf 50 = .ok (.aload_n 0, 1) := by decide +kernel
theorem d_Mod_valueOf_51 : decode b_Mod_valueOf 51 = .ok (.getfield 7, 3) := by decide +kernel
theorem d_Mod_valueOf_54 : decode b_Mod_valueOf 54 = .ok (.bipush 36, 2) := by decide +kernel
theorem d_Mod_valueOf_56 : decode b_Mod_valueOf 56 = .ok (.iload_n 1, 1) := by decide +kernel
theorem d_Mod_valueOf_57 : decode b_Mod_valueOf 57 = .ok (.imul, 1) := by decide +kernel
theorem d_Mod_valueOf_58 : decode b_Mod_valueOf 58 = .ok (.iaload, 1) := by decide +kernel
theorem d_Mod_valueOf_59 : decode b_Mod_valueOf 59 = .ok (.invokestatic 94, 3) := by decide +kernel
theorem d_Mod_valueOf_62 : decode b_Mod_valueOf 62 = .ok (.aload_n 0, 1) := by decide +kernel
theorem d_Mod_valueOf_63 : decode b_Mod_valueOf 63 = .ok (.getfield 7, 3) := by decide +kernel
theorem d_Mod_valueOf_66 : decode b_Mod_valueOf 66 = .ok (.bipush 36, 2) := by decide +kernel
theorem d_Mod_valueOf_68 : decode b_Mod_valueOf 68 = .ok (.iload_n 1, 1) := by decide +kernel
theorem d_Mod_valueOf_69 : decode b_Mod_valueOf 69 = .ok (.imul, 1) := by decide +kernel
theorem d_Mod_valueOf_70 : decode b_Mod_valueOf 70 = .ok (.iconst 1, 1) := by decide +kernel
theorem d_Mod_valueOf_71 : decode b_Mod_valueOf 71 = .ok (.iadd, 1) := by decide +kernel
theorem d_Mod_valueOf_72 : decode b_Mod_valueOf 72 = .ok (.iaload, 1) := by decide +kernel
theorem d_Mod_valueOf_73 : decode b_Mod_valueOf 73 = .ok (.invokestatic 94, 3) := by decide +kernel
theorem d_Mod_valueOf_76 : decode b_Mod_valueOf 76 = .ok (.iload_n 2, 1) := by decide +kernel
theorem d_Mod_valueOf_77 : decode b_Mod_valueOf 77 = .ok (.invokestatic 94, 3) := by decide +kernel
theorem d_Mod_valueOf_80 : decode b_Mod_valueOf 80 = .ok (.iload_n 3, 1) := by decide +kernel
theorem d_Mod_valueOf_81 : decode b_Mod_valueOf 81 = .ok (.invokestatic 94, 3) := by decide +kernel
theorem d_Mod_valueOf_84 : decode b_Mod_valueOf 84 = .ok (.ireturn, 1) := by decide +kernel
theorem d_Mod_empty_0 : decode b_Mod_empty 0 = .ok (.aload_n 0, 1) := by decide +kernel
theorem d_Mod_empty_1 : decode b_Mod_empty 1 = .ok (.getfield 7, 3) := by decide +kernel
theorem d_Mod_empty_4 : decode b_Mod_empty 4 = .ok (.bipush 36, 2) := by decide +kernel
theorem d_Mod_empty_6 : decode b_Mod_empty 6 = .ok (.iload_n 1, 1) := by decide +kernel
theorem d_Mod_empty_7 : decode b_Mod_empty 7 = .ok (.imul, 1) := by decide +kernel
theorem d_Mod_empty_8 : decode b_Mod_empty 8 = .ok (.iaload, 1) := by decide +kernel
theorem d_Mod_empty_9 : decode b_Mod_empty 9 = .ok (.ifCond .ne 35, 3) := by decide +kernel
theorem d_Mod_empty_12 : decode b_Mod_empty 12 = .ok (.aload_n 0, 1) := by decide +kernel
theorem d_Mod_empty_13 : decode b_Mod_empty 13 = .ok (.getfield 7, 3) := by decide +kernel
theorem d_Mod_empty_16 : decode b_Mod_empty 16 = .ok (.bipush 36, 2) := by decide +kernel
theorem d_Mod_empty_18 : decode b_Mod_empty 18 = .ok (.iload_n 1, 1) := by decide +kernel
theorem d_Mod_empty_19 : decode b_Mod_empty 19 = .ok (.imul, 1) := by decide +kernel
theorem d_Mod_empty_20 : decode b_Mod_empty 20 = .ok (.iconst 1, 1) := by decide +kernel
theorem d_Mod_empty_21 : decode b_Mod_empty 21 = .ok (.iadd, 1) := by decide +kernel
theorem d_Mod_empty_22 : decode b_Mod_empty 22 = .ok (.iaload, 1) := by decide +kernel
theorem d_Mod_empty_23 : decode b_Mod_empty 23 = .ok (.ifCond .ne 21, 3) := by decide +kernel
theorem d_Mod_empty_26 : decode b_Mod_empty 26 = .ok (.aload_n 0, 1) := by decide +kernel
theorem d_Mod_empty_27 : decode b_Mod_empty 27 = .ok (.getfield 7, 3) := by decide +kernel
theorem d_Mod_empty_30 : decode b_Mod_empty 30 = .ok (.bipush 36, 2) := by decide +kernel
theorem d_Mod_empty_32 : decode b_Mod_empty 32 = .ok (.iload_n 1, 1) := by decide +kernel
theorem d_Mod_empty_33 : decode b_Mod_empty 33 = .ok (.imul, 1) := by decide +kernel
theorem d_Mod_empty_34 : decode b_Mod_empty 34 = .ok (.iconst 2, 1) := by decide +kernel
theorem d_Mod_empty_35 : decode b_Mod_empty 35 = .ok (.iadd, 1) := by decide +kernel
theorem d_Mod_empty_36 : decode b_Mod_empty 36 = .ok (.iaload, 1) := by decide +kernel
theorem d_Mod_empty_37 : decode b_Mod_empty 37 = .ok (.ifCond .ne 7, 3) := by decide +kernel
theorem d_Mod_empty_40 : decode b_Mod_empty 40 = .ok (.iconst 1, 1) := by decide +kernel
theorem d_Mod_empty_41 : decode b_Mod_empty 41 = .ok (.goto 4, 3) := by decide +kernel
theorem d_Mod_empty_44 : decode b_Mod_empty 44 = .ok (.iconst 0, 1) := by decide +kernel
theorem d_Mod_empty_45 : decode b_Mod_empty 45 = .ok (.istore_n 2, 1) := by decide +kernel
theorem d_Mod_empty_46 : decode b_Mod_empty 46 = .ok (.iconst 0, 1) := by decide +kernel
theorem d_Mod_empty_47 : decode b_Mod_empty 47 = .ok (.istore_n 3, 1) := by decide +kernel
theorem d_Mod_empty_48 : decode b_Mod_empty 48 = .ok (.iload_n 3, 1) := by decide +kernel
theorem d_Mod_empty_49 : decode b_Mod_empty 49 = .ok (.bipush 8, 2) := by decide +kernel
theorem d_Mod_empty_51 : decode b_Mod_empty 51 = .ok (.if_icmp .ge 36, 3) := by decide +kernel
theorem d_Mod_empty_54 : decode b_Mod_empty 54 = .ok (.iload_n 2, 1) := by decide +kernel
theorem d_Mod_empty_55 : decode b_Mod_empty 55 = .ok (.ifCond .eq 24, 3) := by decide +kernel
theorem d_Mod_empty_58 : decode b_Mod_empty 58 = .ok (.aload_n 0, 1) := by decide +kernel
theorem d_Mod_empty_59 : decode b_Mod_empty 59 = .ok (.getfield 7, 3) := by decide +kernel
theorem d_Mod_empty_62 : decode b_Mod_empty 62 = .ok (.bipush 36, 2) := by decide +kernel
theorem d_Mod_empty_64 : decode b_Mod_empty 64 = .ok (.iload_n 1, 1) := by decide +kernel
theorem d_Mod_empty_65 : decode b_Mod_empty 65 = .ok (.imul, 1) := by decide +kernel
theorem d_Mod_empty_66 : decode b_Mod_empty 66 = .ok (.bipush 27, 2) := by decide +kernel
theorem d_Mod_empty_68 : decode b_Mod_empty 68 = .ok (.iadd, 1) := by decide +kernel
theorem d_Mod_empty_69 : decode b_Mod_empty 69 = .ok (.iload_n 3, 1) := by decide +kernel
theorem d_Mod_empty_70 : decode b_Mod_empty 70 = .ok (.iadd, 1) := by decide +kernel
theorem d_Mod_empty_71 : decode b_Mod_empty 71 = .ok (.iaload, 1) := by decide +kernel
theorem d_Mod_empty_72 : decode b_Mod_empty 72 = .ok (.ifCond .ne 7, 3) := by decide +kernel
theorem d_Mod_empty_75 : decode b_Mod_empty 75 = .ok (.iconst 1, 1) := by decide +kernel
theorem d_Mod_empty_76 : decode b_Mod_empty 76 = .ok (.goto 4, 3) := by decide +kernel
theorem d_Mod_empty_79 : decode b_Mod_empty 79 = .ok (.iconst 0, 1) := by decide +kernel
theorem d_Mod_empty_80 : decode b_Mod_empty 80 = .ok (.istore_n 2, 1) := by decide +kernel
theorem d_Mod_empty_81 : decode b_Mod_empty 81 = .ok (.iinc 3 1, 3) := by decide +kernel
theorem d_Mod_empty_84 : decode b_Mod_empty 84 = .ok (.goto (-36), 3) := by decide +kernel
theorem d_Mod_empty_87 : decode b_Mod_empty 87 = .ok (.iload_n 2, 1) := by decide +kernel
theorem d_Mod_empty_88 : decode b_Mod_empty 88 = .ok (.ireturn, 1) := by decide +kernel
theorem d_Mod_root_0 : decode b_Mod_root 0 = .ok (.iconst 0, 1) := by decide +kernel
theorem d_Mod_root_1 : decode b_Mod_root 1 = .ok (.istore_n 1, 1) := by decide +kernel
theorem d_Mod_root_2 : decode b_Mod_root 2 = .ok (.iload_n 1, 1) := by decide +kernel
theorem d_Mod_root_3 : decode b_Mod_root 3 = .ok (.bipush 16, 2) := by decide +kernel
theorem d_Mod_root_5 : decode b_Mod_root 5 = .ok (.if_icmp .ge 20, 3) := by decide +kernel
theorem d_Mod_root_8 : decode b_Mod_root 8 = .ok (.aload_n 0, 1) := by decide +kernel
theorem d_Mod_root_9 : decode b_Mod_root 9 = .ok (.getfield 78, 3) := by decide +kernel
theorem d_Mod_root_12 : decode b_Mod_root 12 = .ok (.iload_n 1, 1) := by decide +kernel
theorem d_Mod_root_13 : decode b_Mod_root 13 = .ok (.aload_n 0, 1) := by decide +kernel
theorem d_Mod_root_14 : decode b_Mod_root 14 = .ok (.iload_n 1, 1) := by decide +kernel
theorem d_Mod_root_15 : decode b_Mod_root 15 = .ok (.invokevirtual 105, 3) := by decide +kernel
theorem d_Mod_root_18 : decode b_Mod_root 18 = .ok (.iastore, 1) := by decide +kernel
theorem d_Mod_root_19 : decode b_Mod_root 19 = .ok (.iinc 1 1, 3) := by decide +kernel
theorem d_Mod_root_22 : decode b_Mod_root 22 = .ok (.goto (-20), 3) := by decide +kernel
theorem d_Mod_root_25 : decode b_Mod_root 25 = .ok (.iconst 0, 1) := by decide +kernel
theorem d_Mod_root_26 : decode b_Mod_root 26 = .ok (.istore_n 1, 1) := by decide +kernel
theorem d_Mod_root_27 : decode b_Mod_root 27 = .ok (.iload_n 1, 1) := by decide +kernel
theorem d_Mod_root_28 : decode b_Mod_root 28 = .ok (.bipush 16, 2) := by decide +kernel
theorem d_Mod_root_30 : decode b_Mod_root 30 = .ok (.if_icmp .ge 40, 3) := by decide +kernel
theorem d_Mod_root_33 : decode b_Mod_root 33 = .ok (.aload_n 0, 1) := by decide +kernel
theorem d_Mod_root_34 : decode b_Mod_root 34 = .ok (.getfield 71, 3) := by decide +kernel
theorem d_Mod_root_37 : decode b_Mod_root 37 = .ok (.iload_n 1, 1) := by decide +kernel
theorem d_Mod_root_38 : decode b_Mod_root 38 = .ok (.aload_n 0, 1) := by decide +kernel
theorem d_Mod_root_39 : decode b_Mod_root 39 = .ok (.iload_n 1, 1) := by decide +kernel
theorem d_Mod_root_40 : decode b_Mod_root 40 = .ok (.invokevirtual 108, 3) := by decide +kernel
theorem d_Mod_root_43 : decode b_Mod_root 43 = .ok (.ifCond .ne 7, 3) := by decide +kernel
theorem d_Mod_root_46 : decode b_Mod_root 46 = .ok (.iconst 1, 1) := by decide +kernel
theorem d_Mod_root_47 : decode b_Mod_root 47 = .ok (.goto 4, 3) := by decide +kernel
theorem d_Mod_root_50 : decode b_Mod_root 50 = .ok (.iconst 0, 1) := by decide +kernel
theorem d_Mod_root_51 : decode b_Mod_root 51 = .ok (.bastore, 1) := by decide +kernel
theorem d_Mod_root_52 : decode b_Mod_root 52 = .ok (.aload_n 0, 1) := by decide +kernel
theorem d_Mod_root_53 : decode b_Mod_root 53 = .ok (.getfield 75, 3) := by decide +kernel
theorem d_Mod_root_56 : decode b_Mod_root 56 = .ok (.iload_n 1, 1) := by decide +kernel
theorem d_Mod_root_57 : decode b_Mod_root 57 = .ok (.aload_n 0, 1) := by decide +kernel
theorem d_Mod_root_58 : decode b_Mod_root 58 = .ok (.getfield 78, 3) := by decide +kernel
theorem d_Mod_root_61 : decode b_Mod_root 61 = .ok (.iload_n 1, 1) := by decide +kernel
theorem d_Mod_root_62 : decode b_Mod_root 62 = .ok (.iaload, 1) := by decide +kernel
theorem d_Mod_root_63 : decode b_Mod_root 63 = .ok (.iastore, 1) := by decide +kernel
theorem d_Mod_root_64 : decode b_Mod_root 64 = .ok (.iinc 1 1, 3) := by decide +kernel
theorem d_Mod_root_67 : decode b_Mod_root 67 = .ok (.goto (-40), 3) := by decide +kernel
theorem d_Mod_root_70 : decode b_Mod_root 70 = .ok (.aload_n 0, 1) := by decide +kernel
theorem d_Mod_root_71 : decode b_Mod_root 71 = .ok (.iconst 4, 1) := by decide +kernel
theorem d_Mod_root_72 : decode b_Mod_root 72 = .ok (.invokevirtual 98, 3) := by decide +kernel
theorem d_Mod_root_75 : decode b_Mod_root 75 = .ok (.ireturn, 1) := by decide +kernel
theorem d_Mod_enter_0 : decode b_Mod_enter 0 = .ok (.aload_n 0, 1) := by decide +kernel
theorem d_Mod_enter_1 : decode b_Mod_enter 1 = .ok (.dup, 1) := by decide +kernel
theorem d_Mod_enter_2 : decode b_Mod_enter 2 = .ok (.getfield 112, 3) := by decide +kernel
theorem d_Mod_enter_5 : decode b_Mod_enter 5 = .ok (.iconst 1, 1) := by decide +kernel
theorem d_Mod_enter_6 : decode b_Mod_enter 6 = .ok (.iadd, 1) := by decide +kernel
theorem d_Mod_enter_7 : decode b_Mod_enter 7 = .ok (.putfield 112, 3) := by decide +kernel
theorem d_Mod_enter_10 : decode b_Mod_enter 10 = .ok (.iconst 0, 1) := by decide +kernel
theorem d_Mod_enter_11 : decode b_Mod_enter 11 = .ok (.istore 7, 2) := by decide +kernel
theorem d_Mod_enter_13 : decode b_Mod_enter 13 = .ok (.iload 7, 2) := by decide +kernel
theorem d_Mod_enter_15 : decode b_Mod_enter 15 = .ok (.sipush 576, 3) := by decide +kernel
theorem d_Mod_enter_18 : decode b_Mod_enter 18 = .ok (.if_icmp .ge 32, 3) := by decide +kernel
theorem d_Mod_enter_21 : decode b_Mod_enter 21 = .ok (.aload_n 0, 1) := by decide +kernel
theorem d_Mod_enter_22 : decode b_Mod_enter 22 = .ok (.getfield 59, 3) := by decide +kernel
theorem d_Mod_enter_25 : decode b_Mod_enter 25 = .ok (.sipush 576, 3) := by decide +kernel
theorem d_Mod_enter_28 : decode b_Mod_enter 28 = .ok (.aload_n 0, 1) := by decide +kernel
theorem d_Mod_enter_29 : decode b_Mod_enter 29 = .ok (.getfield 112, 3) := by decide +kernel
theorem d_Mod_enter_32 : decode b_Mod_enter 32 = .ok (.imul, 1) := by decide +kernel
theorem d_Mod_enter_33 : decode b_Mod_enter 33 = .ok (.iload 7, 2) := by decide +kernel
theorem d_Mod_enter_35 : decode b_Mod_enter 35 = .ok (.iadd, 1) := by decide +kernel
theorem d_Mod_enter_36 : decode b_Mod_enter 36 = .ok (.aload_n 0, 1) := by decide +kernel
theorem d_Mod_enter_37 : decode b_Mod_enter 37 = .ok (.getfield 7, 3) := by decide +kernel
theorem d_Mod_enter_40 : decode b_Mod_enter 40 = .ok (.iload 7, 2) := by decide +kernel
theorem d_Mod_enter_42 : decode b_Mod_enter 42 = .ok (.iaload, 1) := by decide +kernel
theorem d_Mod_enter_43 : decode b_Mod_enter 43 = .ok (.iastore, 1) := by decide +kernel
theorem d_Mod_enter_44 : decode b_Mod_enter 44 = .ok (.iinc 7 1, 3) := by decide +kernel
theorem d_Mod_enter_47 : decode b_Mod_enter 47 = .ok (.goto (-34), 3) := by decide +kernel
theorem d_Mod_enter_50 : decode b_Mod_enter 50 = .ok (.aload_n 0, 1) := by decide +kernel
theorem d_Mod_enter_51 : decode b_Mod_enter 51 = .ok (.getfield 62, 3) := by decide +kernel
theorem d_Mod_enter_54 : decode b_Mod_enter 54 = .ok (.aload_n 0, 1) := by decide +kernel
theorem d_Mod_enter_55 : decode b_Mod_enter 55 = .ok (.getfield 112, 3) := by decide +kernel
theorem d_Mod_enter_58 : decode b_Mod_enter 58 = .ok (.aload_n 0, 1) := by decide +kernel
theorem d_Mod_enter_59 : decode b_Mod_enter 59 = .ok (.getfield 115, 3) := by decide +kernel
theorem d_Mod_enter_62 : decode b_Mod_enter 62 = .ok (.iastore, 1) := by decide +kernel
theorem d_Mod_enter_63 : decode b_Mod_enter 63 = .ok (.aload_n 0, 1) := by decide +kernel
theorem d_Mod_enter_64 : decode b_Mod_enter 64 = .ok (.getfield 65, 3) := by decide +kernel
theorem d_Mod_enter_67 : decode b_Mod_enter 67 = .ok (.aload_n 0, 1) := by decide +kernel
theorem d_Mod_enter_68 : decode b_Mod_enter 68 = .ok (.getfield 112, 3) := by decide +kernel
theorem d_Mod_enter_71 : decode b_Mod_enter 71 = .ok (.aload_n 0, 1) := by decide +kernel
theorem d_Mod_enter_72 : decode b_Mod_enter 72 = .ok (.getfield 118, 3) := by decide +kernel
theorem d_Mod_enter_75 : decode b_Mod_enter 75 = .ok (.iastore, 1) := by decide +kernel
theorem d_Mod_enter_76 : decode b_Mod_enter 76 = .ok (.aload_n 0, 1) := by decide +kernel
theorem d_Mod_enter_77 : decode b_Mod_enter 77 = .ok (.getfield 32, 3) := by decide +kernel
theorem d_Mod_enter_80 : decode b_Mod_enter 80 = .ok (.aload_n 0, 1) := by decide +kernel
theorem d_Mod_enter_81 : decode b_Mod_enter 81 = .ok (.getfield 112, 3) := by decide +kernel
theorem d_Mod_enter_84 : decode b_Mod_enter 84 = .ok (.iload_n 2, 1) := by decide +kernel
theorem d_Mod_enter_85 : decode b_Mod_enter 85 = .ok (.iastore, 1) := by decide +kernel
theorem d_Mod_enter_86 : decode b_Mod_enter 86 = .ok (.aload_n 0, 1) := by decide +kernel
theorem d_Mod_enter_87 : decode b_Mod_enter 87 = .ok (.getfield 35, 3) := by decide +kernel
theorem d_Mod_enter_90 : decode b_Mod_enter 90 = .ok (.aload_n 0, 1) := by decide +kernel
theorem d_Mod_enter_91 : decode b_Mod_enter 91 = .ok (.getfield 112, 3) := by decide +kernel
theorem d_Mod_enter_94 : decode b_Mod_enter 94 = .ok (.iload_n 1, 1) := by decide +kernel
theorem d_Mod_enter_95 : decode b_Mod_enter 95 = .ok (.iastore, 1) := by decide +kernel
theorem d_Mod_enter_96 : decode b_Mod_enter 96 = .ok (.aload_n 0, 1) := by decide +kernel
theorem d_Mod_enter_97 : decode b_Mod_enter 97 = .ok (.getfield 38, 3) := by decide +kernel
theorem d_Mod_enter_100 : decode b_Mod_enter 100 = .ok (.aload_n 0, 1) := by decide +kernel
theorem d_Mod_enter_101 : decode b_Mod_enter 101 = .ok (.getfield 112, 3) := by decide +kernel
theorem d_Mod_enter_104 : decode b_Mod_enter 104 = .ok (.iconst 0, 1) := by decide +kernel
theorem d_Mod_enter_105 : decode b_Mod_enter 105 = .ok (.iastore, 1) := by decide +kernel
theorem d_Mod_enter_106 : decode b_Mod_enter 106 = .ok (.aload_n 0, 1) := by decide +kernel
theorem d_Mod_enter_107 : decode b_Mod_enter 107 = .ok (.getfield 41, 3) := by decide +kernel
theorem d_Mod_enter_110 : decode b_Mod_enter 110 = .ok (.aload_n 0, 1) := by decide +kernel
theorem d_Mod_enter_111 : decode b_Mod_enter 111 = .ok (.getfield 112, 3) := by decide +kernel
theorem d_Mod_enter_114 : decode b_Mod_enter 114 = .ok (.iload_n 3, 1) := by decide +kernel
theorem d_Mod_enter_115 : decode b_Mod_enter 115 = .ok (.iastore, 1) := by decide +kernel
theorem d_Mod_enter_116 : decode b_Mod_enter 116 = .ok (.aload_n 0, 1) := by decide +kernel
theorem d_Mod_enter_117 : decode b_Mod_enter 117 = .ok (.getfield 44, 3) := by decide +kernel
theorem d_Mod_enter_120 : decode b_Mod_enter 120 = .ok (.aload_n 0, 1) := by decide +kernel
theorem d_Mod_enter_121 : decode b_Mod_enter 121 = .ok (.getfield 112, 3) := by decide +kernel
theorem d_Mod_enter_124 : decode b_Mod_enter 124 = .ok (.iload 4, 2) := by decide +kernel
theorem d_Mod_enter_126 : decode b_Mod_enter 126 = .ok (.iastore, 1) := by decide +kernel
theorem d_Mod_enter_127 : decode b_Mod_enter 127 = .ok (.aload_n 0, 1) := by decide +kernel
theorem d_Mod_enter_128 : decode b_Mod_enter 128 = .ok (.getfield 47, 3) := by decide +kernel
theorem d_Mod_enter_131 : decode b_Mod_enter 131 = .ok (.aload_n 0, 1) := by decide +kernel
theorem d_Mod_enter_132 : decode b_Mod_enter 132 = .ok (.getfield 112, 3) := by decide +kernel
theorem d_Mod_enter_135 : decode b_Mod_enter 135 = .ok (.iload 5, 2) := by decide +kernel
theorem d_Mod_enter_137 : decode b_Mod_enter 137 = .ok (.iastore, 1) := by decide +kernel
theorem d_Mod_enter_138 : decode b_Mod_enter 138 = .ok (.aload_n 0, 1) := by decide +kernel
theorem d_Mod_enter_139 : decode b_Mod_enter 139 = .ok (.getfield 50, 3) := by decide +kernel
theorem d_Mod_enter_142 : decode b_Mod_enter 142 = .ok (.aload_n 0, 1) := by decide +kernel
theorem d_Mod_enter_143 : decode b_Mod_enter 143 = .ok (.getfield 112, 3) := by decide +kernel
theorem d_Mod_enter_146 : decode b_Mod_enter 146 = .ok (.iload 6, 2) := by decide +kernel
theorem d_Mod_enter_148 : decode b_Mod_enter 148 = .ok (.iastore, 1) := by decide +kernel
theorem d_Mod_enter_149 : decode b_Mod_enter 149 = .ok (.aload_n 0, 1) := by decide +kernel
theorem d_Mod_enter_150 : decode b_Mod_enter 150 = .ok (.getfield 53, 3) := by decide +kernel
theorem d_Mod_enter_153 : decode b_Mod_enter 153 = .ok (.aload_n 0, 1) := by decide +kernel
theorem d_Mod_enter_154 : decode b_Mod_enter 154 = .ok (.getfield 112, 3) := by decide +kernel
theorem d_Mod_enter_157 : decode b_Mod_enter 157 = .ok (.iconst 0, 1) := by decide +kernel
theorem d_Mod_enter_158 : decode b_Mod_enter 158 = .ok (.iastore, 1) := by decide +kernel
theorem d_Mod_enter_159 : decode b_Mod_enter 159 = .ok (.return_, 1) := by decide +kernel
theorem d_Mod_give_0 : decode b_Mod_give 0 = .ok (.aload_n 0, 1) := by decide +kernel
theorem d_Mod_give_1 : decode b_Mod_give 1 = .ok (.getfield 7, 3) := by decide +kernel
theorem d_Mod_give_4 : decode b_Mod_give 4 = .ok (.bipush 36, 2) := by decide +kernel
theorem d_Mod_give_6 : decode b_Mod_give 6 = .ok (.iload_n 1, 1) := by decide +kernel
theorem d_Mod_give_7 : decode b_Mod_give 7 = .ok (.imul, 1) := by decide +kernel
theorem d_Mod_give_8 : decode b_Mod_give 8 = .ok (.dup2, 1) := by decide +kernel
theorem d_Mod_give_9 : decode b_Mod_give 9 = .ok (.iaload, 1) := by decide +kernel
theorem d_Mod_give_10 : decode b_Mod_give 10 = .ok (.iload_n 3, 1) := by decide +kernel
theorem d_Mod_give_11 : decode b_Mod_give 11 = .ok (.isub, 1) := by decide +kernel
theorem d_Mod_give_12 : decode b_Mod_give 12 = .ok (.iastore, 1) := by decide +kernel
theorem d_Mod_give_13 : decode b_Mod_give 13 = .ok (.aload_n 0, 1) := by decide +kernel
theorem d_Mod_give_14 : decode b_Mod_give 14 = .ok (.getfield 7, 3) := by decide +kernel
theorem d_Mod_give_17 : decode b_Mod_give 17 = .ok (.bipush 36, 2) := by decide +kernel
theorem d_Mod_give_19 : decode b_Mod_give 19 = .ok (.iload_n 2, 1) := by decide +kernel
theorem d_Mod_give_20 : decode b_Mod_give 20 = .ok (.imul, 1) := by decide +kernel
theorem d_Mod_give_21 : decode b_Mod_give 21 = .ok (.dup2, 1) := by decide +kernel
theorem d_Mod_give_22 : decode b_Mod_give 22 = .ok (.iaload, 1) := by decide +kernel
theorem d_Mod_give_23 : decode b_Mod_give 23 = .ok (.iload_n 3, 1) := by decide +kernel
theorem d_Mod_give_24 : decode b_Mod_give 24 = .ok (.iadd, 1) := by decide +kernel
theorem d_Mod_give_25 : decode b_Mod_give 25 = .ok (.iastore, 1) := by decide +kernel
theorem d_Mod_give_26 : decode b_Mod_give 26 = .ok (.return_, 1) := by decide +kernel
end
section
theorem d_Mod_push_0 : decode b_Mod_push 0 = .ok (.aload_n 0, 1) := by decide +kernel
theorem d_Mod_push_1 : decode b_Mod_push 1 = .ok (.getfield 56, 3) := by decide +kernel
theorem d_Mod_push_4 : decode b_Mod_push 4 = .ok (.bipush 12, 2) := by decide +kernel
theorem d_Mod_push_6 : decode b_Mod_push 6 = .ok (.aload_n 0, 1) := by decide +kernel
theorem d_Mod_push_7 : decode b_Mod_push 7 = .ok (.getfield 112, 3) := by decide +kernel
theorem d_Mod_push_10 : decode b_Mod_push 10 = .ok (.imul, 1) := by decide +kernel
theorem d_Mod_push_11 : decode b_Mod_push 11 = .ok (.aload_n 0, 1) := by decide +kernel
theorem d_Mod_push_12 : decode b_Mod_push 12 = .ok (.getfield 53, 3) := by decide +kernel
theorem d_Mod_push_15 : decode b_Mod_push 15 = .ok (.aload_n 0, 1) := by decide +kernel
theorem d_Mod_push_16 : decode b_Mod_push 16 = .ok (.getfield 112, 3) := by decide +kernel
theorem d_Mod_push_19 : decode b_Mod_push 19 = .ok (.iaload, 1) := by decide +kernel
theorem d_Mod_push_20 : decode b_Mod_push 20 = .ok (.iadd, 1) := by decide +kernel
theorem d_Mod_push_21 : decode b_Mod_push 21 = .ok (.iload_n 1, 1) := by decide +kernel
theorem d_Mod_push_22 : decode b_Mod_push 22 = .ok (.iastore, 1) := by decide +kernel
theorem d_Mod_push_23 : decode b_Mod_push 23 = .ok (.aload_n 0, 1) := by decide +kernel
theorem d_Mod_push_24 : decode b_Mod_push 24 = .ok (.getfield 53, 3) := by decide +kernel
theorem d_Mod_push_27 : decode b_Mod_push 27 = .ok (.aload_n 0, 1) := by decide +kernel
theorem d_Mod_push_28 : decode b_Mod_push 28 = .ok (.getfield 112, 3) := by decide +kernel
theorem d_Mod_push_31 : decode b_Mod_push 31 = .ok (.dup2, 1) := by decide +kernel
theorem d_Mod_push_32 : decode b_Mod_push 32 = .ok (.iaload, 1) := by decide +kernel
theorem d_Mod_push_33 : decode b_Mod_push 33 = .ok (.iconst 1, 1) := by decide +kernel
theorem d_Mod_push_34 : decode b_Mod_push 34 = .ok (.iadd, 1) := by decide +kernel
theorem d_Mod_push_35 : decode b_Mod_push 35 = .ok (.iastore, 1) := by decide +kernel
theorem d_Mod_push_36 : decode b_Mod_push 36 = .ok (.return_, 1) := by decide +kernel
theorem d_Mod_pop_0 : decode b_Mod_pop 0 = .ok (.aload_n 0, 1) := by decide +kernel
theorem d_Mod_pop_1 : decode b_Mod_pop 1 = .ok (.getfield 53, 3) := by decide +kernel
theorem d_Mod_pop_4 : decode b_Mod_pop 4 = .ok (.aload_n 0, 1) := by decide +kernel
theorem d_Mod_pop_5 : decode b_Mod_pop 5 = .ok (.getfield 112, 3) := by decide +kernel
theorem d_Mod_pop_8 : decode b_Mod_pop 8 = .ok (.dup2, 1) := by decide +kernel
theorem d_Mod_pop_9 : decode b_Mod_pop 9 = .ok (.iaload, 1) := by decide +kernel
theorem d_Mod_pop_10 : decode b_Mod_pop 10 = .ok (.iconst 1, 1) := by decide +kernel
theorem d_Mod_pop_11 : decode b_Mod_pop 11 = .ok (.isub, 1) := by decide +kernel
theorem d_Mod_pop_12 : decode b_Mod_pop 12 = .ok (.iastore, 1) := by decide +kernel
theorem d_Mod_pop_13 : decode b_Mod_pop 13 = .ok (.aload_n 0, 1) := by decide +kernel
theorem d_Mod_pop_14 : decode b_Mod_pop 14 = .ok (.getfield 56, 3) := by decide +kernel
theorem d_Mod_pop_17 : decode b_Mod_pop 17 = .ok (.bipush 12, 2) := by decide +kernel
theorem d_Mod_pop_19 : decode b_Mod_pop 19 = .ok (.aload_n 0, 1) := by decide +kernel
theorem d_Mod_pop_20 : decode b_Mod_pop 20 = .ok (.getfield 112, 3) := by decide +kernel
theorem d_Mod_pop_23 : decode b_Mod_pop 23 = .ok (.imul, 1) := by decide +kernel
theorem d_Mod_pop_24 : decode b_Mod_pop 24 = .ok (.aload_n 0, 1) := by decide +kernel
theorem d_Mod_pop_25 : decode b_Mod_pop 25 = .ok (.getfield 53, 3) := by decide +kernel
theorem d_Mod_pop_28 : decode b_Mod_pop 28 = .ok (.aload_n 0, 1) := by decide +kernel
theorem d_Mod_pop_29 : decode b_Mod_pop 29 = .ok (.getfield 112, 3) := by decide +kernel
theorem d_Mod_pop_32 : decode b_Mod_pop 32 = .ok (.iaload, 1) := by decide +kernel
theorem d_Mod_pop_33 : decode b_Mod_pop 33 = .ok (.iadd, 1) := by decide +kernel
theorem d_Mod_pop_34 : decode b_Mod_pop 34 = .ok (.iaload, 1) := by decide +kernel
theorem d_Mod_pop_35 : decode b_Mod_pop 35 = .ok (.ireturn, 1) := by decide +kernel
theorem d_Mod_peek_0 : decode b_Mod_peek 0 = .ok (.iload_n 1, 1) := by decide +kernel
theorem d_Mod_peek_1 : decode b_Mod_peek 1 = .ok (.ifCond .lt 45, 3) := by decide +kernel
theorem d_Mod_peek_4 : decode b_Mod_peek 4 = .ok (.iload_n 1, 1) := by decide +kernel
theorem d_Mod_peek_5 : decode b_Mod_peek 5 = .ok (.aload_n 0, 1) := by decide +kernel
theorem d_Mod_peek_6 : decode b_Mod_peek 6 = .ok (.getfield 53, 3) := by decide +kernel
theorem d_Mod_peek_9 : decode b_Mod_peek 9 = .ok (.aload_n 0, 1) := by decide +kernel
theorem d_Mod_peek_10 : decode b_Mod_peek 10 = .ok (.getfield 112, 3) := by decide +kernel
theorem d_Mod_peek_13 : decode b_Mod_peek 13 = .ok (.iaload, 1) := by decide +kernel
theorem d_Mod_peek_14 : decode b_Mod_peek 14 = .ok (.if_icmp .ge 32, 3) := by decide +kernel
theorem d_Mod_peek_17 : decode b_Mod_peek 17 = .ok (.aload_n 0, 1) := by decide +kernel
theorem d_Mod_peek_18 : decode b_Mod_peek 18 = .ok (.getfield 56, 3) := by decide +kernel
theorem d_Mod_peek_21 : decode b_Mod_peek 21 = .ok (.bipush 12, 2) := by decide +kernel
theorem d_Mod_peek_23 : decode b_Mod_peek 23 = .ok (.aload_n 0, 1) := by decide +kernel
theorem d_Mod_peek_24 : decode b_Mod_peek 24 = .ok (.getfield 112, 3) := by decide +kernel
theorem d_Mod_peek_27 : decode b_Mod_peek 27 = .ok (.imul, 1) := by decide +kernel
theorem d_Mod_peek_28 : decode b_Mod_peek 28 = .ok (.aload_n 0, 1) := by decide +kernel
theorem d_Mod_peek_29 : decode b_Mod_peek 29 = .ok (.getfield 53, 3) := by decide +kernel
theorem d_Mod_peek_32 : decode b_Mod_peek 32 = .ok (.aload_n 0, 1) := by decide +kernel
theorem d_Mod_peek_33 : decode b_Mod_peek 33 = .ok (.getfield 112, 3) := by decide +kernel
theorem d_Mod_peek_36 : decode b_Mod_peek 36 = .ok (.iaload, 1) := by decide +kernel
theorem d_Mod_peek_37 : decode b_Mod_peek 37 = .ok (.iadd, 1) := by decide +kernel
theorem d_Mod_peek_38 : decode b_Mod_peek 38 = .ok (.iconst 1, 1) := by decide +kernel
theorem d_Mod_peek_39 : decode b_Mod_peek 39 = .ok (.isub, 1) := by decide +kernel
theorem d_Mod_peek_40 : decode b_Mod_peek 40 = .ok (.iload_n 1, 1) := by decide +kernel
theorem d_Mod_peek_41 : decode b_Mod_peek 41 = .ok (.isub, 1) := by decide +kernel
theorem d_Mod_peek_42 : decode b_Mod_peek 42 = .ok (.iaload, 1) := by decide +kernel
theorem d_Mod_peek_43 : decode b_Mod_peek 43 = .ok (.goto 4, 3) := by decide +kernel
theorem d_Mod_peek_46 : decode b_Mod_peek 46 = .ok (.iconst 0, 1) := by decide +kernel
theorem d_Mod_peek_47 : decode b_Mod_peek 47 = .ok (.ireturn, 1) := by decide +kernel
theorem d_Mod_leave_0 : decode b_Mod_leave 0 = .ok (.iload_n 1, 1) := by decide +kernel
theorem d_Mod_leave_1 : decode b_Mod_leave 1 = .ok (.ifCond .ne 69, 3) := by decide +kernel
theorem d_Mod_leave_4 : decode b_Mod_leave 4 = .ok (.iconst 0, 1) := by decide +kernel
theorem d_Mod_leave_5 : decode b_Mod_leave 5 = .ok (.istore 4, 2) := by decide +kernel
theorem d_Mod_leave_7 : decode b_Mod_leave 7 = .ok (.iload 4, 2) := by decide +kernel
theorem d_Mod_leave_9 : decode b_Mod_leave 9 = .ok (.sipush 576, 3) := by decide +kernel
theorem d_Mod_leave_12 : decode b_Mod_leave 12 = .ok (.if_icmp .ge 32, 3) := by decide +kernel
theorem d_Mod_leave_15 : decode b_Mod_leave 15 = .ok (.aload_n 0, 1) := by decide +kernel
theorem d_Mod_leave_16 : decode b_Mod_leave 16 = .ok (.getfield 7, 3) := by decide +kernel
theorem d_Mod_leave_19 : decode b_Mod_leave 19 = .ok (.iload 4, 2) := by decide +kernel
theorem d_Mod_leave_21 : decode b_Mod_leave 21 = .ok (.aload_n 0, 1) := by decide +kernel
theorem d_Mod_leave_22 : decode b_Mod_leave 22 = .ok (.getfield 59, 3) := by decide +kernel
theorem d_Mod_leave_25 : decode b_Mod_leave 25 = .ok (.sipush 576, 3) := by decide +kernel
theorem d_Mod_leave_28 : decode b_Mod_leave 28 = .ok (.aload_n 0, 1) := by decide +kernel
theorem d_Mod_leave_29 : decode b_Mod_leave 29 = .ok (.getfield 112, 3) := by decide +kernel
theorem d_Mod_leave_32 : decode b_Mod_leave 32 = .ok (.imul, 1) := by decide +kernel
theorem d_Mod_leave_33 : decode b_Mod_leave 33 = .ok (.iload 4, 2) := by decide +kernel
theorem d_Mod_leave_35 : decode b_Mod_leave 35 = .ok (.iadd, 1) := by decide +kernel
theorem d_Mod_leave_36 : decode b_Mod_leave 36 = .ok (.iaload, 1) := by decide +kernel
theorem d_Mod_leave_37 : decode b_Mod_leave 37 = .ok (.iastore, 1) := by decide +kernel
theorem d_Mod_leave_38 : decode b_Mod_leave 38 = .ok (.iinc 4 1, 3) := by decide +kernel
theorem d_Mod_leave_41 : decode b_Mod_leave 41 = .ok (.goto (-34), 3) := by decide +kernel
theorem d_Mod_leave_44 : decode b_Mod_leave 44 = .ok (.aload_n 0, 1) := by decide +kernel
theorem d_Mod_leave_45 : decode b_Mod_leave 45 = .ok (.aload_n 0, 1) := by decide +kernel
theorem d_Mod_leave_46 : decode b_Mod_leave 46 = .ok (.getfield 62, 3) := by decide +kernel
theorem d_Mod_leave_49 : decode b_Mod_leave 49 = .ok (.aload_n 0, 1) := by decide +kernel
theorem d_Mod_leave_50 : decode b_Mod_leave 50 = .ok (.getfield 112, 3) := by decide +kernel
theorem d_Mod_leave_53 : decode b_Mod_leave 53 = .ok (.iaload, 1) := by decide +kernel
theorem d_Mod_leave_54 : decode b_Mod_leave 54 = .ok (.putfield 115, 3) := by decide +kernel
theorem d_Mod_leave_57 : decode b_Mod_leave 57 = .ok (.aload_n 0, 1) := by decide +kernel
theorem d_Mod_leave_58 : decode b_Mod_leave 58 = .ok (.aload_n 0, 1) := by decide +kernel
theorem d_Mod_leave_59 : decode b_Mod_leave 59 = .ok (.getfield 65, 3) := by decide +kernel
theorem d_Mod_leave_62 : decode b_Mod_leave 62 = .ok (.aload_n 0, 1) := by decide +kernel
theorem d_Mod_leave_63 : decode b_Mod_leave 63 = .ok (.getfield 112, 3) := by decide +kernel
theorem d_Mod_leave_66 : decode b_Mod_leave 66 = .ok (.iaload, 1) := by decide +kernel
theorem d_Mod_leave_67 : decode b_Mod_leave 67 = .ok (.putfield 118, 3) := by decide +kernel
theorem d_Mod_leave_70 : decode b_Mod_leave 70 = .ok (.aload_n 0, 1) := by decide +kernel
theorem d_Mod_leave_71 : decode b_Mod_leave 71 = .ok (.dup, 1) := by decide +kernel
theorem d_Mod_leave_72 : decode b_Mod_leave 72 = .ok (.getfield 112, 3) := by decide +kernel
theorem d_Mod_leave_75 : decode b_Mod_leave 75 = .ok (.iconst 1, 1) := by decide +kernel
theorem d_Mod_leave_76 : decode b_Mod_leave 76 = .ok (.isub, 1) := by decide +kernel
theorem d_Mod_leave_77 : decode b_Mod_leave 77 = .ok (.putfield 112, 3) := by decide +kernel
theorem d_Mod_leave_80 : decode b_Mod_leave 80 = .ok (.aload_n 0, 1) := by decide +kernel
theorem d_Mod_leave_81 : decode b_Mod_leave 81 = .ok (.getfield 112, 3) := by decide +kernel
theorem d_Mod_leave_84 : decode b_Mod_leave 84 = .ok (.ifCond .ge 27, 3) := by decide +kernel
theorem d_Mod_leave_87 : decode b_Mod_leave 87 = .ok (.aload_n 0, 1) := by decide +kernel
theorem d_Mod_leave_88 : decode b_Mod_leave 88 = .ok (.iload_n 3, 1) := by decide +kernel
theorem d_Mod_leave_89 : decode b_Mod_leave 89 = .ok (.putfield 121, 3) := by decide +kernel
theorem d_Mod_leave_92 : decode b_Mod_leave 92 = .ok (.aload_n 0, 1) := by decide +kernel
theorem d_Mod_leave_93 : decode b_Mod_leave 93 = .ok (.iload_n 1, 1) := by decide +kernel
theorem d_Mod_leave_94 : decode b_Mod_leave 94 = .ok (.ifCond .eq 7, 3) := by decide +kernel
theorem d_Mod_leave_97 : decode b_Mod_leave 97 = .ok (.iconst 1, 1) := by decide +kernel
theorem d_Mod_leave_98 : decode b_Mod_leave 98 = .ok (.goto 4, 3) := by decide +kernel
theorem d_Mod_leave_101 : decode b_Mod_leave 101 = .ok (.iconst 0, 1) := by decide +kernel
theorem d_Mod_leave_102 : decode b_Mod_leave 102 = .ok (.putfield 124, 3) := by decide +kernel
theorem d_Mod_leave_105 : decode b_Mod_leave 105 = .ok (.aload_n 0, 1) := by decide +kernel
theorem d_Mod_leave_106 : decode b_Mod_leave 106 = .ok (.iload_n 2, 1) := by decide +kernel
theorem d_Mod_leave_107 : decode b_Mod_leave 107 = .ok (.putfield 127, 3) := by decide +kernel
theorem d_Mod_leave_110 : decode b_Mod_leave 110 = .ok (.return_, 1) := by decide +kernel
theorem d_Mod_leave_111 : decode b_Mod_leave 111 = .ok (.aload_n 0, 1) := by decide +kernel
theorem d_Mod_leave_112 : decode b_Mod_leave 112 = .ok (.getfield 50, 3) := by decide +kernel
theorem d_Mod_leave_115 : decode b_Mod_leave 115 = .ok (.aload_n 0, 1) := by decide +kernel
theorem d_Mod_leave_116 : decode b_Mod_leave 116 = .ok (.getfield 112, 3) := by decide +kernel
theorem d_Mod_leave_119 : decode b_Mod_leave 119 = .ok (.dup2, 1) := by decide +kernel
theorem d_Mod_leave_120 : decode b_Mod_leave 120 = .ok (.iaload, 1) := by decide +kernel
theorem d_Mod_leave_121 : decode b_Mod_leave 121 = .ok (.iload_n 3, 1) := by decide +kernel
theorem d_Mod_leave_122 : decode b_Mod_leave 122 = .ok (.iadd, 1) := by decide +kernel
theorem d_Mod_leave_123 : decode b_Mod_leave 123 = .ok (.iastore, 1) := by decide +kernel
theorem d_Mod_leave_124 : decode b_Mod_leave 124 = .ok (.aload_n 0, 1) := by decide +kernel
theorem d_Mod_leave_125 : decode b_Mod_leave 125 = .ok (.iload_n 2, 1) := by decide +kernel
theorem d_Mod_leave_126 : decode b_Mod_leave 126 = .ok (.invokevirtual 130, 3) := by decide +kernel
theorem d_Mod_leave_129 : decode b_Mod_leave 129 = .ok (.aload_n 0, 1) := by decide +kernel
theorem d_Mod_leave_130 : decode b_Mod_leave 130 = .ok (.iload_n 1, 1) := by decide +kernel
theorem d_Mod_leave_131 : decode b_Mod_leave 131 = .ok (.ifCond .eq 7, 3) := by decide +kernel
theorem d_Mod_leave_134 : decode b_Mod_leave 134 = .ok (.iconst 1, 1) := by decide +kernel
theorem d_Mod_leave_135 : decode b_Mod_leave 135 = .ok (.goto 4, 3) := by decide +kernel
theorem d_Mod_leave_138 : decode b_Mod_leave 138 = .ok (.iconst 0, 1) := by decide +kernel
theorem d_Mod_leave_139 : decode b_Mod_leave 139 = .ok (.invokevirtual 130, 3) := by decide +kernel
theorem d_Mod_leave_142 : decode b_Mod_leave 142 = .ok (.return_, 1) := by decide +kernel
theorem d_Mod_pops_0 : decode b_Mod_pops 0 = .ok (.iload_n 0, 1) := by decide +kernel
theorem d_Mod_pops_1 : decode b_Mod_pops 1 = .ok (.bipush 22, 2) := by decide +kernel
theorem d_Mod_pops_3 : decode b_Mod_pops 3 = .ok (.if_icmp .ne 5, 3) := by decide +kernel
theorem d_Mod_pops_6 : decode b_Mod_pops 6 = .ok (.iconst 4, 1) := by decide +kernel
theorem d_Mod_pops_7 : decode b_Mod_pops 7 = .ok (.ireturn, 1) := by decide +kernel
theorem d_Mod_pops_8 : decode b_Mod_pops 8 = .ok (.iload_n 0, 1) := by decide +kernel
theorem d_Mod_pops_9 : decode b_Mod_pops 9 = .ok (.bipush 23, 2) := by decide +kernel
theorem d_Mod_pops_11 : decode b_Mod_pops 11 = .ok (.if_icmp .eq 9, 3) := by decide +kernel
theorem d_Mod_pops_14 : decode b_Mod_pops 14 = .ok (.iload_n 0, 1) := by decide +kernel
theorem d_Mod_pops_15 : decode b_Mod_pops 15 = .ok (.bipush 24, 2) := by decide +kernel
theorem d_Mod_pops_17 : decode b_Mod_pops 17 = .ok (.if_icmp .ne 5, 3) := by decide +kernel
theorem d_Mod_pops_20 : decode b_Mod_pops 20 = .ok (.iconst 3, 1) := by decide +kernel
theorem d_Mod_pops_21 : decode b_Mod_pops 21 = .ok (.ireturn, 1) := by decide +kernel
theorem d_Mod_pops_22 : decode b_Mod_pops 22 = .ok (.iload_n 0, 1) := by decide +kernel
theorem d_Mod_pops_23 : decode b_Mod_pops 23 = .ok (.iconst 5, 1) := by decide +kernel
theorem d_Mod_pops_24 : decode b_Mod_pops 24 = .ok (.if_icmp .lt 9, 3) := by decide +kernel
theorem d_Mod_pops_27 : decode b_Mod_pops 27 = .ok (.iload_n 0, 1) := by decide +kernel
theorem d_Mod_pops_28 : decode b_Mod_pops 28 = .ok (.bipush 10, 2) := by decide +kernel
theorem d_Mod_pops_30 : decode b_Mod_pops 30 = .ok (.if_icmp .le 15, 3) := by decide +kernel
theorem d_Mod_pops_33 : decode b_Mod_pops 33 = .ok (.iload_n 0, 1) := by decide +kernel
theorem d_Mod_pops_34 : decode b_Mod_pops 34 = .ok (.bipush 13, 2) := by decide +kernel
theorem d_Mod_pops_36 : decode b_Mod_pops 36 = .ok (.if_icmp .eq 9, 3) := by decide +kernel
theorem d_Mod_pops_39 : decode b_Mod_pops 39 = .ok (.iload_n 0, 1) := by decide +kernel
theorem d_Mod_pops_40 : decode b_Mod_pops 40 = .ok (.bipush 15, 2) := by decide +kernel
theorem d_Mod_pops_42 : decode b_Mod_pops 42 = .ok (.if_icmp .ne 5, 3) := by decide +kernel
theorem d_Mod_pops_45 : decode b_Mod_pops 45 = .ok (.iconst 2, 1) := by decide +kernel
theorem d_Mod_pops_46 : decode b_Mod_pops 46 = .ok (.ireturn, 1) := by decide +kernel
theorem d_Mod_pops_47 : decode b_Mod_pops 47 = .ok (.iload_n 0, 1) := by decide +kernel
theorem d_Mod_pops_48 : decode b_Mod_pops 48 = .ok (.iconst 2, 1) := by decide +kernel
theorem d_Mod_pops_49 : decode b_Mod_pops 49 = .ok (.if_icmp .eq 33, 3) := by decide +kernel
theorem d_Mod_pops_52 : decode b_Mod_pops 52 = .ok (.iload_n 0, 1) := by decide +kernel
theorem d_Mod_pops_53 : decode b_Mod_pops 53 = .ok (.bipush 11, 2) := by decide +kernel
theorem d_Mod_pops_55 : decode b_Mod_pops 55 = .ok (.if_icmp .eq 27, 3) := by decide +kernel
theorem d_Mod_pops_58 : decode b_Mod_pops 58 = .ok (.iload_n 0, 1) := by decide +kernel
theorem d_Mod_pops_59 : decode b_Mod_pops 59 = .ok (.bipush 12, 2) := by decide +kernel
theorem d_Mod_pops_61 : decode b_Mod_pops 61 = .ok (.if_icmp .eq 21, 3) := by decide +kernel
theorem d_Mod_pops_64 : decode b_Mod_pops 64 = .ok (.iload_n 0, 1) := by decide +kernel
theorem d_Mod_pops_65 : decode b_Mod_pops 65 = .ok (.bipush 14, 2) := by decide +kernel
theorem d_Mod_pops_67 : decode b_Mod_pops 67 = .ok (.if_icmp .eq 15, 3) := by decide +kernel
theorem d_Mod_pops_70 : decode b_Mod_pops 70 = .ok (.iload_n 0, 1) := by decide +kernel
theorem d_Mod_pops_71 : decode b_Mod_pops 71 = .ok (.bipush 16, 2) := by decide +kernel
theorem d_Mod_pops_73 : decode b_Mod_pops 73 = .ok (.if_icmp .eq 9, 3) := by decide +kernel
theorem d_Mod_pops_76 : decode b_Mod_pops 76 = .ok (.iload_n 0, 1) := by decide +kernel
theorem d_Mod_pops_77 : decode b_Mod_pops 77 = .ok (.bipush 25, 2) := by decide +kernel
theorem d_Mod_pops_79 : decode b_Mod_pops 79 = .ok (.if_icmp .lt 7, 3) := by decide +kernel
theorem d_Mod_pops_82 : decode b_Mod_pops 82 = .ok (.iconst 1, 1) := by decide +kernel
theorem d_Mod_pops_83 : decode b_Mod_pops 83 = .ok (.goto 4, 3) := by decide +kernel
theorem d_Mod_pops_86 : decode b_Mod_pops 86 = .ok (.iconst 0, 1) := by decide +kernel
theorem d_Mod_pops_87 : decode b_Mod_pops 87 = .ok (.ireturn, 1) := by decide +kernel
theorem d_Mod_pushes_0 : decode b_Mod_pushes 0 = .ok (.iload_n 0, 1) := by decide +kernel
theorem d_Mod_pushes_1 : decode b_Mod_pushes 1 = .ok (.bipush 22, 2) := by decide +kernel
theorem d_Mod_pushes_3 : decode b_Mod_pushes 3 = .ok (.if_icmp .eq 9, 3) := by decide +kernel
theorem d_Mod_pushes_6 : decode b_Mod_pushes 6 = .ok (.iload_n 0, 1) := by decide +kernel
theorem d_Mod_pushes_7 : decode b_Mod_pushes 7 = .ok (.bipush 23, 2) := by decide +kernel
theorem d_Mod_pushes_9 : decode b_Mod_pushes 9 = .ok (.if_icmp .ne 5, 3) := by decide +kernel
theorem d_Mod_pushes_12 : decode b_Mod_pushes 12 = .ok (.iconst 2, 1) := by decide +kernel
theorem d_Mod_pushes_13 : decode b_Mod_pushes 13 = .ok (.ireturn, 1) := by decide +kernel
theorem d_Mod_pushes_14 : decode b_Mod_pushes 14 = .ok (.iload_n 0, 1) := by decide +kernel
theorem d_Mod_pushes_15 : decode b_Mod_pushes 15 = .ok (.iconst 1, 1) := by decide +kernel
theorem d_Mod_pushes_16 : decode b_Mod_pushes 16 = .ok (.if_icmp .eq 43, 3) := by decide +kernel
theorem d_Mod_pushes_19 : decode b_Mod_pushes 19 = .ok (.iload_n 0, 1) := by decide +kernel
theorem d_Mod_pushes_20 : decode b_Mod_pushes 20 = .ok (.iconst 3, 1) := by decide +kernel
theorem d_Mod_pushes_21 : decode b_Mod_pushes 21 = .ok (.if_icmp .eq 38, 3) := by decide +kernel
theorem d_Mod_pushes_24 : decode b_Mod_pushes 24 = .ok (.iload_n 0, 1) := by decide +kernel
theorem d_Mod_pushes_25 : decode b_Mod_pushes 25 = .ok (.iconst 5, 1) := by decide +kernel
theorem d_Mod_pushes_26 : decode b_Mod_pushes 26 = .ok (.if_icmp .lt 9, 3) := by decide +kernel
theorem d_Mod_pushes_29 : decode b_Mod_pushes 29 = .ok (.iload_n 0, 1) := by decide +kernel
theorem d_Mod_pushes_30 : decode b_Mod_pushes 30 = .ok (.bipush 11, 2) := by decide +kernel
theorem d_Mod_pushes_32 : decode b_Mod_pushes 32 = .ok (.if_icmp .le 27, 3) := by decide +kernel
theorem d_Mod_pushes_35 : decode b_Mod_pushes 35 = .ok (.iload_n 0, 1) := by decide +kernel
theorem d_Mod_pushes_36 : decode b_Mod_pushes 36 = .ok (.bipush 14, 2) := by decide +kernel
theorem d_Mod_pushes_38 : decode b_Mod_pushes 38 = .ok (.if_icmp .eq 21, 3) := by decide +kernel
theorem d_Mod_pushes_41 : decode b_Mod_pushes 41 = .ok (.iload_n 0, 1) := by decide +kernel
theorem d_Mod_pushes_42 : decode b_Mod_pushes 42 = .ok (.bipush 16, 2) := by decide +kernel
theorem d_Mod_pushes_44 : decode b_Mod_pushes 44 = .ok (.if_icmp .lt 9, 3) := by decide +kernel
theorem d_Mod_pushes_47 : decode b_Mod_pushes 47 = .ok (.iload_n 0, 1) := by decide +kernel
theorem d_Mod_pushes_48 : decode b_Mod_pushes 48 = .ok (.bipush 21, 2) := by decide +kernel
theorem d_Mod_pushes_50 : decode b_Mod_pushes 50 = .ok (.if_icmp .le 9, 3) := by decide +kernel
theorem d_Mod_pushes_53 : decode b_Mod_pushes 53 = .ok (.iload_n 0, 1) := by decide +kernel
theorem d_Mod_pushes_54 : decode b_Mod_pushes 54 = .ok (.bipush 24, 2) := by decide +kernel
theorem d_Mod_pushes_56 : decode b_Mod_pushes 56 = .ok (.if_icmp .ne 7, 3) := by decide +kernel
theorem d_Mod_pushes_59 : decode b_Mod_pushes 59 = .ok (.iconst 1, 1) := by decide +kernel
theorem d_Mod_pushes_60 : decode b_Mod_pushes 60 = .ok (.goto 4, 3) := by decide +kernel
theorem d_Mod_pushes_63 : decode b_Mod_pushes 63 = .ok (.iconst 0, 1) := by decide +kernel
theorem d_Mod_pushes_64 : decode b_Mod_pushes 64 = .ok (.ireturn, 1) := by decide +kernel
theorem d_Mod_cost_0 : decode b_Mod_cost 0 = .ok (.iload_n 1, 1) := by decide +kernel
theorem d_Mod_cost_1 : decode b_Mod_cost 1 = .ok (.ifCond .eq 15, 3) := by decide +kernel
theorem d_Mod_cost_4 : decode b_Mod_cost 4 = .ok (.iload_n 1, 1) := by decide +kernel
theorem d_Mod_cost_5 : decode b_Mod_cost 5 = .ok (.bipush 26, 2) := by decide +kernel
theorem d_Mod_cost_7 : decode b_Mod_cost 7 = .ok (.if_icmp .eq 9, 3) := by decide +kernel
theorem d_Mod_cost_10 : decode b_Mod_cost 10 = .ok (.iload_n 1, 1) := by decide +kernel
theorem d_Mod_cost_11 : decode b_Mod_cost 11 = .ok (.bipush 27, 2) := by decide +kernel
theorem d_Mod_cost_13 : decode b_Mod_cost 13 = .ok (.if_icmp .ne 5, 3) := by decide +kernel
theorem d_Mod_cost_16 : decode b_Mod_cost 16 = .ok (.iconst 0, 1) := by decide +kernel
theorem d_Mod_cost_17 : decode b_Mod_cost 17 = .ok (.ireturn, 1) := by decide +kernel
theorem d_Mod_cost_18 : decode b_Mod_cost 18 = .ok (.iload_n 1, 1) := by decide +kernel
theorem d_Mod_cost_19 : decode b_Mod_cost 19 = .ok (.bipush 15, 2) := by decide +kernel
theorem d_Mod_cost_21 : decode b_Mod_cost 21 = .ok (.if_icmp .ne 59, 3) := by decide +kernel
theorem d_Mod_cost_24 : decode b_Mod_cost 24 = .ok (.aload_n 0, 1) := by decide +kernel
theorem d_Mod_cost_25 : decode b_Mod_cost 25 = .ok (.iconst 0, 1) := by decide +kernel
theorem d_Mod_cost_26 : decode b_Mod_cost 26 = .ok (.invokevirtual 134, 3) := by decide +kernel
theorem d_Mod_cost_29 : decode b_Mod_cost 29 = .ok (.istore_n 2, 1) := by decide +kernel
theorem d_Mod_cost_30 : decode b_Mod_cost 30 = .ok (.iload_n 2, 1) := by decide +kernel
theorem d_Mod_cost_31 : decode b_Mod_cost 31 = .ok (.bipush 8, 2) := by decide +kernel
theorem d_Mod_cost_33 : decode b_Mod_cost 33 = .ok (.invokestatic 81, 3) := by decide +kernel
theorem d_Mod_cost_36 : decode b_Mod_cost 36 = .ok (.ifCond .eq 41, 3) := by decide +kernel
theorem d_Mod_cost_39 : decode b_Mod_cost 39 = .ok (.aload_n 0, 1) := by decide +kernel
theorem d_Mod_cost_40 : decode b_Mod_cost 40 = .ok (.getfield 7, 3) := by decide +kernel
theorem d_Mod_cost_43 : decode b_Mod_cost 43 = .ok (.bipush 36, 2) := by decide +kernel
theorem d_Mod_cost_45 : decode b_Mod_cost 45 = .ok (.aload_n 0, 1) := by decide +kernel
theorem d_Mod_cost_46 : decode b_Mod_cost 46 = .ok (.getfield 32, 3) := by decide +kernel
theorem d_Mod_cost_49 : decode b_Mod_cost 49 = .ok (.aload_n 0, 1) := by decide +kernel
theorem d_Mod_cost_50 : decode b_Mod_cost 50 = .ok (.getfield 112, 3) := by decide +kernel
theorem d_Mod_cost_53 : decode b_Mod_cost 53 = .ok (.iaload, 1) := by decide +kernel
theorem d_Mod_cost_54 : decode b_Mod_cost 54 = .ok (.imul, 1) := by decide +kernel
theorem d_Mod_cost_55 : decode b_Mod_cost 55 = .ok (.bipush 27, 2) := by decide +kernel
theorem d_Mod_cost_57 : decode b_Mod_cost 57 = .ok (.iadd, 1) := by decide +kernel
theorem d_Mod_cost_58 : decode b_Mod_cost 58 = .ok (.iload_n 2, 1) := by decide +kernel
theorem d_Mod_cost_59 : decode b_Mod_cost 59 = .ok (.iadd, 1) := by decide +kernel
theorem d_Mod_cost_60 : decode b_Mod_cost 60 = .ok (.iaload, 1) := by decide +kernel
theorem d_Mod_cost_61 : decode b_Mod_cost 61 = .ok (.ifCond .ne 16, 3) := by decide +kernel
theorem d_Mod_cost_64 : decode b_Mod_cost 64 = .ok (.aload_n 0, 1) := by decide +kernel
theorem d_Mod_cost_65 : decode b_Mod_cost 65 = .ok (.iconst 1, 1) := by decide +kernel
theorem d_Mod_cost_66 : decode b_Mod_cost 66 = .ok (.invokevirtual 134, 3) := by decide +kernel
theorem d_Mod_cost_69 : decode b_Mod_cost 69 = .ok (.ifCond .eq 8, 3) := by decide +kernel
theorem d_Mod_cost_72 : decode b_Mod_cost 72 = .ok (.bipush 40, 2) := by decide +kernel
theorem d_Mod_cost_74 : decode b_Mod_cost 74 = .ok (.goto 5, 3) := by decide +kernel
theorem d_Mod_cost_77 : decode b_Mod_cost 77 = .ok (.bipush 10, 2) := by decide +kernel
theorem d_Mod_cost_79 : decode b_Mod_cost 79 = .ok (.ireturn, 1) := by decide +kernel
theorem d_Mod_cost_80 : decode b_Mod_cost 80 = .ok (.iload_n 1, 1) := by decide +kernel
theorem d_Mod_cost_81 : decode b_Mod_cost 81 = .ok (.bipush 22, 2) := by decide +kernel
theorem d_Mod_cost_83 : decode b_Mod_cost 83 = .ok (.if_icmp .ne 19, 3) := by decide +kernel
theorem d_Mod_cost_86 : decode b_Mod_cost 86 = .ok (.aload_n 0, 1) := by decide +kernel
theorem d_Mod_cost_87 : decode b_Mod_cost 87 = .ok (.iconst 2, 1) := by decide +kernel
theorem d_Mod_cost_88 : decode b_Mod_cost 88 = .ok (.invokevirtual 134, 3) := by decide +kernel
theorem d_Mod_cost_91 : decode b_Mod_cost 91 = .ok (.ifCond .eq 8, 3) := by decide +kernel
theorem d_Mod_cost_94 : decode b_Mod_cost 94 = .ok (.bipush 50, 2) := by decide +kernel
theorem d_Mod_cost_96 : decode b_Mod_cost 96 = .ok (.goto 5, 3) := by decide +kernel
theorem d_Mod_cost_99 : decode b_Mod_cost 99 = .ok (.bipush 30, 2) := by decide +kernel
theorem d_Mod_cost_101 : decode b_Mod_cost 101 = .ok (.ireturn, 1) := by decide +kernel
theorem d_Mod_cost_102 : decode b_Mod_cost 102 = .ok (.iload_n 1, 1) := by decide +kernel
theorem d_Mod_cost_103 : decode b_Mod_cost 103 = .ok (.bipush 24, 2) := by decide +kernel
theorem d_Mod_cost_105 : decode b_Mod_cost 105 = .ok (.if_icmp .ne 36, 3) := by decide +kernel
theorem d_Mod_cost_108 : decode b_Mod_cost 108 = .ok (.aload_n 0, 1) := by decide +kernel
theorem d_Mod_cost_109 : decode b_Mod_cost 109 = .ok (.iconst 2, 1) := by decide +kernel
theorem d_Mod_cost_110 : decode b_Mod_cost 110 = .ok (.invokevirtual 134, 3) := by decide +kernel
theorem d_Mod_cost_113 : decode b_Mod_cost 113 = .ok (.istore_n 2, 1) := by decide +kernel
theorem d_Mod_cost_114 : decode b_Mod_cost 114 = .ok (.bipush 60, 2) := by decide +kernel
theorem d_Mod_cost_116 : decode b_Mod_cost 116 = .ok (.iconst 2, 1) := by decide +kernel
theorem d_Mod_cost_117 : decode b_Mod_cost 117 = .ok (.iload_n 2, 1) := by decide +kernel
theorem d_Mod_cost_118 : decode b_Mod_cost 118 = .ok (.iconst 1, 1) := by decide +kernel
theorem d_Mod_cost_119 : decode b_Mod_cost 119 = .ok (.if_icmp .ge 7, 3) := by decide +kernel
theorem d_Mod_cost_122 : decode b_Mod_cost 122 = .ok (.iconst 0, 1) := by decide +kernel
theorem d_Mod_cost_123 : decode b_Mod_cost 123 = .ok (.goto 15, 3) := by decide +kernel
theorem d_Mod_cost_126 : decode b_Mod_cost 126 = .ok (.iload_n 2, 1) := by decide +kernel
theorem d_Mod_cost_127 : decode b_Mod_cost 127 = .ok (.bipush 24, 2) := by decide +kernel
theorem d_Mod_cost_129 : decode b_Mod_cost 129 = .ok (.if_icmp .le 8, 3) := by decide +kernel
theorem d_Mod_cost_132 : decode b_Mod_cost 132 = .ok (.bipush 24, 2) := by decide +kernel
theorem d_Mod_cost_134 : decode b_Mod_cost 134 = .ok (.goto 4, 3) := by decide +kernel
theorem d_Mod_cost_137 : decode b_Mod_cost 137 = .ok (.iload_n 2, 1) := by decide +kernel
theorem d_Mod_cost_138 : decode b_Mod_cost 138 = .ok (.imul, 1) := by decide +kernel
theorem d_Mod_cost_139 : decode b_Mod_cost 139 = .ok (.iadd, 1) := by decide +kernel
theorem d_Mod_cost_140 : decode b_Mod_cost 140 = .ok (.ireturn, 1) := by decide +kernel
theorem d_Mod_cost_141 : decode b_Mod_cost 141 = .ok (.iload_n 1, 1) := by decide +kernel
theorem d_Mod_cost_142 : decode b_Mod_cost 142 = .ok (.bipush 7, 2) := by decide +kernel
theorem d_Mod_cost_144 : decode b_Mod_cost 144 = .ok (.if_icmp .eq 9, 3) := by decide +kernel
theorem d_Mod_cost_147 : decode b_Mod_cost 147 = .ok (.iload_n 1, 1) := by decide +kernel
theorem d_Mod_cost_148 : decode b_Mod_cost 148 = .ok (.bipush 8, 2) := by decide +kernel
theorem d_Mod_cost_150 : decode b_Mod_cost 150 = .ok (.if_icmp .ne 7, 3) := by decide +kernel
theorem d_Mod_cost_153 : decode b_Mod_cost 153 = .ok (.iconst 2, 1) := by decide +kernel
theorem d_Mod_cost_154 : decode b_Mod_cost 154 = .ok (.goto 74, 3) := by decide +kernel
theorem d_Mod_cost_157 : decode b_Mod_cost 157 = .ok (.iload_n 1, 1) := by decide +kernel
theorem d_Mod_cost_158 : decode b_Mod_cost 158 = .ok (.bipush 12, 2) := by decide +kernel
theorem d_Mod_cost_160 : decode b_Mod_cost 160 = .ok (.if_icmp .ne 7, 3) := by decide +kernel
theorem d_Mod_cost_163 : decode b_Mod_cost 163 = .ok (.iconst 3, 1) := by decide +kernel
theorem d_Mod_cost_164 : decode b_Mod_cost 164 = .ok (.goto 64, 3) := by decide +kernel
theorem d_Mod_cost_167 : decode b_Mod_cost 167 = .ok (.iload_n 1, 1) := by decide +kernel
theorem d_Mod_cost_168 : decode b_Mod_cost 168 = .ok (.bipush 13, 2) := by decide +kernel
theorem d_Mod_cost_170 : decode b_Mod_cost 170 = .ok (.if_icmp .ne 7, 3) := by decide +kernel
theorem d_Mod_cost_173 : decode b_Mod_cost 173 = .ok (.iconst 4, 1) := by decide +kernel
theorem d_Mod_cost_174 : decode b_Mod_cost 174 = .ok (.goto 54, 3) := by decide +kernel
theorem d_Mod_cost_177 : decode b_Mod_cost 177 = .ok (.iload_n 1, 1) := by decide +kernel
theorem d_Mod_cost_178 : decode b_Mod_cost 178 = .ok (.bipush 14, 2) := by decide +kernel
theorem d_Mod_cost_180 : decode b_Mod_cost 180 = .ok (.if_icmp .eq 9, 3) := by decide +kernel
theorem d_Mod_cost_183 : decode b_Mod_cost 183 = .ok (.iload_n 1, 1) := by decide +kernel
theorem d_Mod_cost_184 : decode b_Mod_cost 184 = .ok (.bipush 16, 2) := by decide +kernel
theorem d_Mod_cost_186 : decode b_Mod_cost 186 = .ok (.if_icmp .ne 8, 3) := by decide +kernel
theorem d_Mod_cost_189 : decode b_Mod_cost 189 = .ok (.bipush 10, 2) := by decide +kernel
theorem d_Mod_cost_191 : decode b_Mod_cost 191 = .ok (.goto 37, 3) := by decide +kernel
theorem d_Mod_cost_194 : decode b_Mod_cost 194 = .ok (.iload_n 1, 1) := by decide +kernel
theorem d_Mod_cost_195 : decode b_Mod_cost 195 = .ok (.bipush 23, 2) := by decide +kernel
theorem d_Mod_cost_197 : decode b_Mod_cost 197 = .ok (.if_icmp .ne 8, 3) := by decide +kernel
theorem d_Mod_cost_200 : decode b_Mod_cost 200 = .ok (.bipush 30, 2) := by decide +kernel
theorem d_Mod_cost_202 : decode b_Mod_cost 202 = .ok (.goto 26, 3) := by decide +kernel
theorem d_Mod_cost_205 : decode b_Mod_cost 205 = .ok (.iload_n 1, 1) := by decide +kernel
theorem d_Mod_cost_206 : decode b_Mod_cost 206 = .ok (.bipush 25, 2) := by decide +kernel
theorem d_Mod_cost_208 : decode b_Mod_cost 208 = .ok (.if_icmp .ne 8, 3) := by decide +kernel
theorem d_Mod_cost_211 : decode b_Mod_cost 211 = .ok (.bipush 12, 2) := by decide +kernel
theorem d_Mod_cost_213 : decode b_Mod_cost 213 = .ok (.goto 15, 3) := by decide +kernel
theorem d_Mod_cost_216 : decode b_Mod_cost 216 = .ok (.iload_n 1, 1) := by decide +kernel
theorem d_Mod_cost_217 : decode b_Mod_cost 217 = .ok (.bipush 28, 2) := by decide +kernel
theorem d_Mod_cost_219 : decode b_Mod_cost 219 = .ok (.if_icmp .ne 8, 3) := by decide +kernel
theorem d_Mod_cost_222 : decode b_Mod_cost 222 = .ok (.bipush 20, 2) := by decide +kernel
theorem d_Mod_cost_224 : decode b_Mod_cost 224 = .ok (.goto 4, 3) := by decide +kernel
theorem d_Mod_cost_227 : decode b_Mod_cost 227 = .ok (.iconst 1, 1) := by decide +kernel
theorem d_Mod_cost_228 : decode b_Mod_cost 228 = .ok (.ireturn, 1) := by decide +kernel
end
section
theorem d_Mod_fails_0 : decode b_Mod_fails 0 = .ok (.aload_n 0, 1) := by decide +kernel
theorem d_Mod_fails_1 : decode b_Mod_fails 1 = .ok (.getfield 7, 3) := by decide +kernel
theorem d_Mod_fails_4 : decode b_Mod_fails 4 = .ok (.bipush 36, 2) := by decide +kernel
theorem d_Mod_fails_6 : decode b_Mod_fails 6 = .ok (.aload_n 0, 1) := by decide +kernel
theorem d_Mod_fails_7 : decode b_Mod_fails 7 = .ok (.getfield 35, 3) := by decide +kernel
theorem d_Mod_fails_10 : decode b_Mod_fails 10 = .ok (.aload_n 0, 1) := by decide +kernel
theorem d_Mod_fails_11 : decode b_Mod_fails 11 = .ok (.getfield 112, 3) := by decide +kernel
theorem d_Mod_fails_14 : decode b_Mod_fails 14 = .ok (.iaload, 1) := by decide +kernel
theorem d_Mod_fails_15 : decode b_Mod_fails 15 = .ok (.imul, 1) := by decide +kernel
theorem d_Mod_fails_16 : decode b_Mod_fails 16 = .ok (.iconst 2, 1) := by decide +kernel
theorem d_Mod_fails_17 : decode b_Mod_fails 17 = .ok (.iadd, 1) := by decide +kernel
theorem d_Mod_fails_18 : decode b_Mod_fails 18 = .ok (.iaload, 1) := by decide +kernel
theorem d_Mod_fails_19 : decode b_Mod_fails 19 = .ok (.istore_n 3, 1) := by decide +kernel
theorem d_Mod_fails_20 : decode b_Mod_fails 20 = .ok (.iload_n 1, 1) := by decide +kernel
theorem d_Mod_fails_21 : decode b_Mod_fails 21 = .ok (.iconst 3, 1) := by decide +kernel
theorem d_Mod_fails_22 : decode b_Mod_fails 22 = .ok (.if_icmp .ne 26, 3) := by decide +kernel
theorem d_Mod_fails_25 : decode b_Mod_fails 25 = .ok (.iload_n 2, 1) := by decide +kernel
theorem d_Mod_fails_26 : decode b_Mod_fails 26 = .ok (.ifCond .lt 16, 3) := by decide +kernel
theorem d_Mod_fails_29 : decode b_Mod_fails 29 = .ok (.iload_n 2, 1) := by decide +kernel
theorem d_Mod_fails_30 : decode b_Mod_fails 30 = .ok (.aload_n 0, 1) := by decide +kernel
theorem d_Mod_fails_31 : decode b_Mod_fails 31 = .ok (.getfield 53, 3) := by decide +kernel
theorem d_Mod_fails_34 : decode b_Mod_fails 34 = .ok (.aload_n 0, 1) := by decide +kernel
theorem d_Mod_fails_35 : decode b_Mod_fails 35 = .ok (.getfield 112, 3) := by decide +kernel
theorem d_Mod_fails_38 : decode b_Mod_fails 38 = .ok (.iaload, 1) := by decide +kernel
theorem d_Mod_fails_39 : decode b_Mod_fails 39 = .ok (.if_icmp .lt 7, 3) := by decide +kernel
theorem d_Mod_fails_42 : decode b_Mod_fails 42 = .ok (.iconst 1, 1) := by decide +kernel
theorem d_Mod_fails_43 : decode b_Mod_fails 43 = .ok (.goto 4, 3) := by decide +kernel
theorem d_Mod_fails_46 : decode b_Mod_fails 46 = .ok (.iconst 0, 1) := by decide +kernel
theorem d_Mod_fails_47 : decode b_Mod_fails 47 = .ok (.ireturn, 1) := by decide +kernel
theorem d_Mod_fails_48 : decode b_Mod_fails 48 = .ok (.iload_n 1, 1) := by decide +kernel
theorem d_Mod_fails_49 : decode b_Mod_fails 49 = .ok (.iconst 4, 1) := by decide +kernel
theorem d_Mod_fails_50 : decode b_Mod_fails 50 = .ok (.if_icmp .ne 27, 3) := by decide +kernel
theorem d_Mod_fails_53 : decode b_Mod_fails 53 = .ok (.iload_n 2, 1) := by decide +kernel
theorem d_Mod_fails_54 : decode b_Mod_fails 54 = .ok (.iconst 1, 1) := by decide +kernel
theorem d_Mod_fails_55 : decode b_Mod_fails 55 = .ok (.if_icmp .lt 16, 3) := by decide +kernel
theorem d_Mod_fails_58 : decode b_Mod_fails 58 = .ok (.iload_n 2, 1) := by decide +kernel
theorem d_Mod_fails_59 : decode b_Mod_fails 59 = .ok (.aload_n 0, 1) := by decide +kernel
theorem d_Mod_fails_60 : decode b_Mod_fails 60 = .ok (.getfield 53, 3) := by decide +kernel
theorem d_Mod_fails_63 : decode b_Mod_fails 63 = .ok (.aload_n 0, 1) := by decide +kernel
theorem d_Mod_fails_64 : decode b_Mod_fails 64 = .ok (.getfield 112, 3) := by decide +kernel
theorem d_Mod_fails_67 : decode b_Mod_fails 67 = .ok (.iaload, 1) := by decide +kernel
theorem d_Mod_fails_68 : decode b_Mod_fails 68 = .ok (.if_icmp .lt 7, 3) := by decide +kernel
theorem d_Mod_fails_71 : decode b_Mod_fails 71 = .ok (.iconst 1, 1) := by decide +kernel
theorem d_Mod_fails_72 : decode b_Mod_fails 72 = .ok (.goto 4, 3) := by decide +kernel
theorem d_Mod_fails_75 : decode b_Mod_fails 75 = .ok (.iconst 0, 1) := by decide +kernel
theorem d_Mod_fails_76 : decode b_Mod_fails 76 = .ok (.ireturn, 1) := by decide +kernel
theorem d_Mod_fails_77 : decode b_Mod_fails 77 = .ok (.iload_n 1, 1) := by decide +kernel
theorem d_Mod_fails_78 : decode b_Mod_fails 78 = .ok (.bipush 12, 2) := by decide +kernel
theorem d_Mod_fails_80 : decode b_Mod_fails 80 = .ok (.if_icmp .eq 17, 3) := by decide +kernel
theorem d_Mod_fails_83 : decode b_Mod_fails 83 = .ok (.iload_n 1, 1) := by decide +kernel
theorem d_Mod_fails_84 : decode b_Mod_fails 84 = .ok (.bipush 13, 2) := by decide +kernel
theorem d_Mod_fails_86 : decode b_Mod_fails 86 = .ok (.if_icmp .ne 29, 3) := by decide +kernel
theorem d_Mod_fails_89 : decode b_Mod_fails 89 = .ok (.aload_n 0, 1) := by decide +kernel
theorem d_Mod_fails_90 : decode b_Mod_fails 90 = .ok (.iconst 1, 1) := by decide +kernel
theorem d_Mod_fails_91 : decode b_Mod_fails 91 = .ok (.invokevirtual 134, 3) := by decide +kernel
theorem d_Mod_fails_94 : decode b_Mod_fails 94 = .ok (.ifCond .eq 21, 3) := by decide +kernel
theorem d_Mod_fails_97 : decode b_Mod_fails 97 = .ok (.aload_n 0, 1) := by decide +kernel
theorem d_Mod_fails_98 : decode b_Mod_fails 98 = .ok (.iconst 0, 1) := by decide +kernel
theorem d_Mod_fails_99 : decode b_Mod_fails 99 = .ok (.invokevirtual 134, 3) := by decide +kernel
theorem d_Mod_fails_102 : decode b_Mod_fails 102 = .ok (.iload_n 3, 1) := by decide +kernel
theorem d_Mod_fails_103 : decode b_Mod_fails 103 = .ok (.invokestatic 81, 3) := by decide +kernel
theorem d_Mod_fails_106 : decode b_Mod_fails 106 = .ok (.ifCond .ne 7, 3) := by decide +kernel
theorem d_Mod_fails_109 : decode b_Mod_fails 109 = .ok (.iconst 1, 1) := by decide +kernel
theorem d_Mod_fails_110 : decode b_Mod_fails 110 = .ok (.goto 4, 3) := by decide +kernel
theorem d_Mod_fails_113 : decode b_Mod_fails 113 = .ok (.iconst 0, 1) := by decide +kernel
theorem d_Mod_fails_114 : decode b_Mod_fails 114 = .ok (.ireturn, 1) := by decide +kernel
theorem d_Mod_fails_115 : decode b_Mod_fails 115 = .ok (.iload_n 1, 1) := by decide +kernel
theorem d_Mod_fails_116 : decode b_Mod_fails 116 = .ok (.bipush 15, 2) := by decide +kernel
theorem d_Mod_fails_118 : decode b_Mod_fails 118 = .ok (.if_icmp .ne 22, 3) := by decide +kernel
theorem d_Mod_fails_121 : decode b_Mod_fails 121 = .ok (.aload_n 0, 1) := by decide +kernel
theorem d_Mod_fails_122 : decode b_Mod_fails 122 = .ok (.iconst 0, 1) := by decide +kernel
theorem d_Mod_fails_123 : decode b_Mod_fails 123 = .ok (.invokevirtual 134, 3) := by decide +kernel
theorem d_Mod_fails_126 : decode b_Mod_fails 126 = .ok (.bipush 8, 2) := by decide +kernel
theorem d_Mod_fails_128 : decode b_Mod_fails 128 = .ok (.invokestatic 81, 3) := by decide +kernel
theorem d_Mod_fails_131 : decode b_Mod_fails 131 = .ok (.ifCond .ne 7, 3) := by decide +kernel
theorem d_Mod_fails_134 : decode b_Mod_fails 134 = .ok (.iconst 1, 1) := by decide +kernel
theorem d_Mod_fails_135 : decode b_Mod_fails 135 = .ok (.goto 4, 3) := by decide +kernel
theorem d_Mod_fails_138 : decode b_Mod_fails 138 = .ok (.iconst 0, 1) := by decide +kernel
theorem d_Mod_fails_139 : decode b_Mod_fails 139 = .ok (.ireturn, 1) := by decide +kernel
theorem d_Mod_fails_140 : decode b_Mod_fails 140 = .ok (.iload_n 1, 1) := by decide +kernel
theorem d_Mod_fails_141 : decode b_Mod_fails 141 = .ok (.bipush 22, 2) := by decide +kernel
theorem d_Mod_fails_143 : decode b_Mod_fails 143 = .ok (.if_icmp .ne 17, 3) := by decide +kernel
theorem d_Mod_fails_146 : decode b_Mod_fails 146 = .ok (.aload_n 0, 1) := by decide +kernel
theorem d_Mod_fails_147 : decode b_Mod_fails 147 = .ok (.iconst 2, 1) := by decide +kernel
theorem d_Mod_fails_148 : decode b_Mod_fails 148 = .ok (.invokevirtual 134, 3) := by decide +kernel
theorem d_Mod_fails_151 : decode b_Mod_fails 151 = .ok (.ifCond .ge 7, 3) := by decide +kernel
theorem d_Mod_fails_154 : decode b_Mod_fails 154 = .ok (.iconst 1, 1) := by decide +kernel
theorem d_Mod_fails_155 : decode b_Mod_fails 155 = .ok (.goto 4, 3) := by decide +kernel
theorem d_Mod_fails_158 : decode b_Mod_fails 158 = .ok (.iconst 0, 1) := by decide +kernel
theorem d_Mod_fails_159 : decode b_Mod_fails 159 = .ok (.ireturn, 1) := by decide +kernel
theorem d_Mod_fails_160 : decode b_Mod_fails 160 = .ok (.iload_n 1, 1) := by decide +kernel
theorem d_Mod_fails_161 : decode b_Mod_fails 161 = .ok (.bipush 24, 2) := by decide +kernel
theorem d_Mod_fails_163 : decode b_Mod_fails 163 = .ok (.if_icmp .ne 58, 3) := by decide +kernel
theorem d_Mod_fails_166 : decode b_Mod_fails 166 = .ok (.aload_n 0, 1) := by decide +kernel
theorem d_Mod_fails_167 : decode b_Mod_fails 167 = .ok (.iconst 1, 1) := by decide +kernel
theorem d_Mod_fails_168 : decode b_Mod_fails 168 = .ok (.invokevirtual 134, 3) := by decide +kernel
theorem d_Mod_fails_171 : decode b_Mod_fails 171 = .ok (.istore 4, 2) := by decide +kernel
theorem d_Mod_fails_173 : decode b_Mod_fails 173 = .ok (.aload_n 0, 1) := by decide +kernel
theorem d_Mod_fails_174 : decode b_Mod_fails 174 = .ok (.iconst 2, 1) := by decide +kernel
theorem d_Mod_fails_175 : decode b_Mod_fails 175 = .ok (.invokevirtual 134, 3) := by decide +kernel
theorem d_Mod_fails_178 : decode b_Mod_fails 178 = .ok (.istore 5, 2) := by decide +kernel
theorem d_Mod_fails_180 : decode b_Mod_fails 180 = .ok (.aload_n 0, 1) := by decide +kernel
theorem d_Mod_fails_181 : decode b_Mod_fails 181 = .ok (.iconst 0, 1) := by decide +kernel
theorem d_Mod_fails_182 : decode b_Mod_fails 182 = .ok (.invokevirtual 134, 3) := by decide +kernel
theorem d_Mod_fails_185 : decode b_Mod_fails 185 = .ok (.ifCond .lt 30, 3) := by decide +kernel
theorem d_Mod_fails_188 : decode b_Mod_fails 188 = .ok (.iload 5, 2) := by decide +kernel
theorem d_Mod_fails_190 : decode b_Mod_fails 190 = .ok (.iconst 1, 1) := by decide +kernel
theorem d_Mod_fails_191 : decode b_Mod_fails 191 = .ok (.if_icmp .lt 24, 3) := by decide +kernel
theorem d_Mod_fails_194 : decode b_Mod_fails 194 = .ok (.iload 5, 2) := by decide +kernel
theorem d_Mod_fails_196 : decode b_Mod_fails 196 = .ok (.bipush 24, 2) := by decide +kernel
theorem d_Mod_fails_198 : decode b_Mod_fails 198 = .ok (.if_icmp .gt 17, 3) := by decide +kernel
theorem d_Mod_fails_201 : decode b_Mod_fails 201 = .ok (.iload 4, 2) := by decide +kernel
theorem d_Mod_fails_203 : decode b_Mod_fails 203 = .ok (.ifCond .lt 12, 3) := by decide +kernel
theorem d_Mod_fails_206 : decode b_Mod_fails 206 = .ok (.iload 4, 2) := by decide +kernel
theorem d_Mod_fails_208 : decode b_Mod_fails 208 = .ok (.iload_n 3, 1) := by decide +kernel
theorem d_Mod_fails_209 : decode b_Mod_fails 209 = .ok (.iload 5, 2) := by decide +kernel
theorem d_Mod_fails_211 : decode b_Mod_fails 211 = .ok (.isub, 1) := by decide +kernel
theorem d_Mod_fails_212 : decode b_Mod_fails 212 = .ok (.if_icmp .le 7, 3) := by decide +kernel
theorem d_Mod_fails_215 : decode b_Mod_fails 215 = .ok (.iconst 1, 1) := by decide +kernel
theorem d_Mod_fails_216 : decode b_Mod_fails 216 = .ok (.goto 4, 3) := by decide +kernel
theorem d_Mod_fails_219 : decode b_Mod_fails 219 = .ok (.iconst 0, 1) := by decide +kernel
theorem d_Mod_fails_220 : decode b_Mod_fails 220 = .ok (.ireturn, 1) := by decide +kernel
theorem d_Mod_fails_221 : decode b_Mod_fails 221 = .ok (.iload_n 1, 1) := by decide +kernel
theorem d_Mod_fails_222 : decode b_Mod_fails 222 = .ok (.bipush 28, 2) := by decide +kernel
theorem d_Mod_fails_224 : decode b_Mod_fails 224 = .ok (.if_icmp .ne 16, 3) := by decide +kernel
theorem d_Mod_fails_227 : decode b_Mod_fails 227 = .ok (.aload_n 0, 1) := by decide +kernel
theorem d_Mod_fails_228 : decode b_Mod_fails 228 = .ok (.iconst 0, 1) := by decide +kernel
theorem d_Mod_fails_229 : decode b_Mod_fails 229 = .ok (.invokevirtual 134, 3) := by decide +kernel
theorem d_Mod_fails_232 : decode b_Mod_fails 232 = .ok (.bipush 16, 2) := by decide +kernel
theorem d_Mod_fails_234 : decode b_Mod_fails 234 = .ok (.invokestatic 81, 3) := by decide +kernel
theorem d_Mod_fails_237 : decode b_Mod_fails 237 = .ok (.ifCond .eq 9, 3) := by decide +kernel
theorem d_Mod_fails_240 : decode b_Mod_fails 240 = .ok (.iload_n 1, 1) := by decide +kernel
theorem d_Mod_fails_241 : decode b_Mod_fails 241 = .ok (.bipush 28, 2) := by decide +kernel
theorem d_Mod_fails_243 : decode b_Mod_fails 243 = .ok (.if_icmp .le 7, 3) := by decide +kernel
theorem d_Mod_fails_246 : decode b_Mod_fails 246 = .ok (.iconst 1, 1) := by decide +kernel
theorem d_Mod_fails_247 : decode b_Mod_fails 247 = .ok (.goto 4, 3) := by decide +kernel
theorem d_Mod_fails_250 : decode b_Mod_fails 250 = .ok (.iconst 0, 1) := by decide +kernel
theorem d_Mod_fails_251 : decode b_Mod_fails 251 = .ok (.ireturn, 1) := by decide +kernel
theorem d_Mod_step_0 : decode b_Mod_step 0 = .ok (.aload_n 0, 1) := by decide +kernel
theorem d_Mod_step_1 : decode b_Mod_step 1 = .ok (.getfield 38, 3) := by decide +kernel
theorem d_Mod_step_4 : decode b_Mod_step 4 = .ok (.aload_n 0, 1) := by decide +kernel
theorem d_Mod_step_5 : decode b_Mod_step 5 = .ok (.getfield 112, 3) := by decide +kernel
theorem d_Mod_step_8 : decode b_Mod_step 8 = .ok (.iaload, 1) := by decide +kernel
theorem d_Mod_step_9 : decode b_Mod_step 9 = .ok (.istore_n 1, 1) := by decide +kernel
theorem d_Mod_step_10 : decode b_Mod_step 10 = .ok (.iload_n 1, 1) := by decide +kernel
theorem d_Mod_step_11 : decode b_Mod_step 11 = .ok (.aload_n 0, 1) := by decide +kernel
theorem d_Mod_step_12 : decode b_Mod_step 12 = .ok (.getfield 7, 3) := by decide +kernel
theorem d_Mod_step_15 : decode b_Mod_step 15 = .ok (.bipush 36, 2) := by decide +kernel
theorem d_Mod_step_17 : decode b_Mod_step 17 = .ok (.aload_n 0, 1) := by decide +kernel
theorem d_Mod_step_18 : decode b_Mod_step 18 = .ok (.getfield 35, 3) := by decide +kernel
theorem d_Mod_step_21 : decode b_Mod_step 21 = .ok (.aload_n 0, 1) := by decide +kernel
theorem d_Mod_step_22 : decode b_Mod_step 22 = .ok (.getfield 112, 3) := by decide +kernel
theorem d_Mod_step_25 : decode b_Mod_step 25 = .ok (.iaload, 1) := by decide +kernel
theorem d_Mod_step_26 : decode b_Mod_step 26 = .ok (.imul, 1) := by decide +kernel
theorem d_Mod_step_27 : decode b_Mod_step 27 = .ok (.iconst 2, 1) := by decide +kernel
theorem d_Mod_step_28 : decode b_Mod_step 28 = .ok (.iadd, 1) := by decide +kernel
theorem d_Mod_step_29 : decode b_Mod_step 29 = .ok (.iaload, 1) := by decide +kernel
theorem d_Mod_step_30 : decode b_Mod_step 30 = .ok (.if_icmp .lt 19, 3) := by decide +kernel
theorem d_Mod_step_33 : decode b_Mod_step 33 = .ok (.aload_n 0, 1) := by decide +kernel
theorem d_Mod_step_34 : decode b_Mod_step 34 = .ok (.iconst 1, 1) := by decide +kernel
theorem d_Mod_step_35 : decode b_Mod_step 35 = .ok (.iconst 0, 1) := by decide +kernel
theorem d_Mod_step_36 : decode b_Mod_step 36 = .ok (.aload_n 0, 1) := by decide +kernel
theorem d_Mod_step_37 : decode b_Mod_step 37 = .ok (.getfield 50, 3) := by decide +kernel
theorem d_Mod_step_40 : decode b_Mod_step 40 = .ok (.aload_n 0, 1) := by decide +kernel
theorem d_Mod_step_41 : decode b_Mod_step 41 = .ok (.getfield 112, 3) := by decide +kernel
theorem d_Mod_step_44 : decode b_Mod_step 44 = .ok (.iaload, 1) := by decide +kernel
theorem d_Mod_step_45 : decode b_Mod_step 45 = .ok (.invokevirtual 137, 3) := by decide +kernel
theorem d_Mod_step_48 : decode b_Mod_step 48 = .ok (.return_, 1) := by decide +kernel
theorem d_Mod_step_49 : decode b_Mod_step 49 = .ok (.aload_n 0, 1) := by decide +kernel
theorem d_Mod_step_50 : decode b_Mod_step 50 = .ok (.getfield 7, 3) := by decide +kernel
theorem d_Mod_step_53 : decode b_Mod_step 53 = .ok (.bipush 36, 2) := by decide +kernel
theorem d_Mod_step_55 : decode b_Mod_step 55 = .ok (.aload_n 0, 1) := by decide +kernel
theorem d_Mod_step_56 : decode b_Mod_step 56 = .ok (.getfield 35, 3) := by decide +kernel
theorem d_Mod_step_59 : decode b_Mod_step 59 = .ok (.aload_n 0, 1) := by decide +kernel
theorem d_Mod_step_60 : decode b_Mod_step 60 = .ok (.getfield 112, 3) := by decide +kernel
theorem d_Mod_step_63 : decode b_Mod_step 63 = .ok (.iaload, 1) := by decide +kernel
theorem d_Mod_step_64 : decode b_Mod_step 64 = .ok (.imul, 1) := by decide +kernel
theorem d_Mod_step_65 : decode b_Mod_step 65 = .ok (.iconst 3, 1) := by decide +kernel
theorem d_Mod_step_66 : decode b_Mod_step 66 = .ok (.iadd, 1) := by decide +kernel
theorem d_Mod_step_67 : decode b_Mod_step 67 = .ok (.iload_n 1, 1) := by decide +kernel
theorem d_Mod_step_68 : decode b_Mod_step 68 = .ok (.iadd, 1) := by decide +kernel
theorem d_Mod_step_69 : decode b_Mod_step 69 = .ok (.iaload, 1) := by decide +kernel
theorem d_Mod_step_70 : decode b_Mod_step 70 = .ok (.istore_n 2, 1) := by decide +kernel
theorem d_Mod_step_71 : decode b_Mod_step 71 = .ok (.iload_n 2, 1) := by decide +kernel
theorem d_Mod_step_72 : decode b_Mod_step 72 = .ok (.bipush 31, 2) := by decide +kernel
theorem d_Mod_step_74 : decode b_Mod_step 74 = .ok (.iand, 1) := by decide +kernel
theorem d_Mod_step_75 : decode b_Mod_step 75 = .ok (.istore_n 3, 1) := by decide +kernel
theorem d_Mod_step_76 : decode b_Mod_step 76 = .ok (.iload_n 2, 1) := by decide +kernel
theorem d_Mod_step_77 : decode b_Mod_step 77 = .ok (.iconst 5, 1) := by decide +kernel
theorem d_Mod_step_78 : decode b_Mod_step 78 = .ok (.ishr, 1) := by decide +kernel
theorem d_Mod_step_79 : decode b_Mod_step 79 = .ok (.istore 4, 2) := by decide +kernel
theorem d_Mod_step_81 : decode b_Mod_step 81 = .ok (.aload_n 0, 1) := by decide +kernel
theorem d_Mod_step_82 : decode b_Mod_step 82 = .ok (.getfield 53, 3) := by decide +kernel
theorem d_Mod_step_85 : decode b_Mod_step 85 = .ok (.aload_n 0, 1) := by decide +kernel
theorem d_Mod_step_86 : decode b_Mod_step 86 = .ok (.getfield 112, 3) := by decide +kernel
theorem d_Mod_step_89 : decode b_Mod_step 89 = .ok (.iaload, 1) := by decide +kernel
theorem d_Mod_step_90 : decode b_Mod_step 90 = .ok (.istore 5, 2) := by decide +kernel
theorem d_Mod_step_92 : decode b_Mod_step 92 = .ok (.iload 5, 2) := by decide +kernel
theorem d_Mod_step_94 : decode b_Mod_step 94 = .ok (.iload_n 3, 1) := by decide +kernel
theorem d_Mod_step_95 : decode b_Mod_step 95 = .ok (.invokestatic 141, 3) := by decide +kernel
theorem d_Mod_step_98 : decode b_Mod_step 98 = .ok (.if_icmp .lt 47, 3) := by decide +kernel
theorem d_Mod_step_101 : decode b_Mod_step 101 = .ok (.iload 5, 2) := by decide +kernel
theorem d_Mod_step_103 : decode b_Mod_step 103 = .ok (.iload_n 3, 1) := by decide +kernel
theorem d_Mod_step_104 : decode b_Mod_step 104 = .ok (.invokestatic 141, 3) := by decide +kernel
theorem d_Mod_step_107 : decode b_Mod_step 107 = .ok (.isub, 1) := by decide +kernel
theorem d_Mod_step_108 : decode b_Mod_step 108 = .ok (.iload_n 3, 1) := by decide +kernel
theorem d_Mod_step_109 : decode b_Mod_step 109 = .ok (.invokestatic 144, 3) := by decide +kernel
theorem d_Mod_step_112 : decode b_Mod_step 112 = .ok (.iadd, 1) := by decide +kernel
theorem d_Mod_step_113 : decode b_Mod_step 113 = .ok (.bipush 12, 2) := by decide +kernel
theorem d_Mod_step_115 : decode b_Mod_step 115 = .ok (.if_icmp .gt 30, 3) := by decide +kernel
theorem d_Mod_step_118 : decode b_Mod_step 118 = .ok (.aload_n 0, 1) := by decide +kernel
theorem d_Mod_step_119 : decode b_Mod_step 119 = .ok (.getfield 50, 3) := by decide +kernel
theorem d_Mod_step_122 : decode b_Mod_step 122 = .ok (.aload_n 0, 1) := by decide +kernel
theorem d_Mod_step_123 : decode b_Mod_step 123 = .ok (.getfield 112, 3) := by decide +kernel
theorem d_Mod_step_126 : decode b_Mod_step 126 = .ok (.iaload, 1) := by decide +kernel
theorem d_Mod_step_127 : decode b_Mod_step 127 = .ok (.aload_n 0, 1) := by decide +kernel
theorem d_Mod_step_128 : decode b_Mod_step 128 = .ok (.iload_n 3, 1) := by decide +kernel
theorem d_Mod_step_129 : decode b_Mod_step 129 = .ok (.invokevirtual 147, 3) := by decide +kernel
theorem d_Mod_step_132 : decode b_Mod_step 132 = .ok (.if_icmp .lt 13, 3) := by decide +kernel
theorem d_Mod_step_135 : decode b_Mod_step 135 = .ok (.aload_n 0, 1) := by decide +kernel
theorem d_Mod_step_136 : decode b_Mod_step 136 = .ok (.iload_n 3, 1) := by decide +kernel
theorem d_Mod_step_137 : decode b_Mod_step 137 = .ok (.iload 4, 2) := by decide +kernel
theorem d_Mod_step_139 : decode b_Mod_step 139 = .ok (.invokevirtual 150, 3) := by decide +kernel
theorem d_Mod_step_142 : decode b_Mod_step 142 = .ok (.ifCond .eq 11, 3) := by decide +kernel
theorem d_Mod_step_145 : decode b_Mod_step 145 = .ok (.aload_n 0, 1) := by decide +kernel
theorem d_Mod_step_146 : decode b_Mod_step 146 = .ok (.iconst 0, 1) := by decide +kernel
theorem d_Mod_step_147 : decode b_Mod_step 147 = .ok (.iconst 0, 1) := by decide +kernel
theorem d_Mod_step_148 : decode b_Mod_step 148 = .ok (.iconst 0, 1) := by decide +kernel
theorem d_Mod_step_149 : decode b_Mod_step 149 = .ok (.invokevirtual 137, 3) := by decide +kernel
theorem d_Mod_step_152 : decode b_Mod_step 152 = .ok (.return_, 1) := by decide +kernel
theorem d_Mod_step_153 : decode b_Mod_step 153 = .ok (.aload_n 0, 1) := by decide +kernel
theorem d_Mod_step_154 : decode b_Mod_step 154 = .ok (.getfield 50, 3) := by decide +kernel
theorem d_Mod_step_157 : decode b_Mod_step 157 = .ok (.aload_n 0, 1) := by decide +kernel
theorem d_Mod_step_158 : decode b_Mod_step 158 = .ok (.getfield 112, 3) := by decide +kernel
theorem d_Mod_step_161 : decode b_Mod_step 161 = .ok (.dup2, 1) := by decide +kernel
theorem d_Mod_step_162 : decode b_Mod_step 162 = .ok (.iaload, 1) := by decide +kernel
theorem d_Mod_step_163 : decode b_Mod_step 163 = .ok (.aload_n 0, 1) := by decide +kernel
theorem d_Mod_step_164 : decode b_Mod_step 164 = .ok (.iload_n 3, 1) := by decide +kernel
theorem d_Mod_step_165 : decode b_Mod_step 165 = .ok (.invokevirtual 147, 3) := by decide +kernel
theorem d_Mod_step_168 : decode b_Mod_step 168 = .ok (.isub, 1) := by decide +kernel
theorem d_Mod_step_169 : decode b_Mod_step 169 = .ok (.iastore, 1) := by decide +kernel
theorem d_Mod_step_170 : decode b_Mod_step 170 = .ok (.aload_n 0, 1) := by decide +kernel
theorem d_Mod_step_171 : decode b_Mod_step 171 = .ok (.getfield 38, 3) := by decide +kernel
theorem d_Mod_step_174 : decode b_Mod_step 174 = .ok (.aload_n 0, 1) := by decide +kernel
theorem d_Mod_step_175 : decode b_Mod_step 175 = .ok (.getfield 112, 3) := by decide +kernel
theorem d_Mod_step_178 : decode b_Mod_step 178 = .ok (.dup2, 1) := by decide +kernel
theorem d_Mod_step_179 : decode b_Mod_step 179 = .ok (.iaload, 1) := by decide +kernel
theorem d_Mod_step_180 : decode b_Mod_step 180 = .ok (.iconst 1, 1) := by decide +kernel
theorem d_Mod_step_181 : decode b_Mod_step 181 = .ok (.iadd, 1) := by decide +kernel
theorem d_Mod_step_182 : decode b_Mod_step 182 = .ok (.iastore, 1) := by decide +kernel
theorem d_Mod_step_183 : decode b_Mod_step 183 = .ok (.iload_n 3, 1) := by decide +kernel
theorem d_Mod_step_184 : decode b_Mod_step 184 = .ok (.ifCond .ne 21, 3) := by decide +kernel
theorem d_Mod_step_187 : decode b_Mod_step 187 = .ok (.aload_n 0, 1) := by decide +kernel
theorem d_Mod_step_188 : decode b_Mod_step 188 = .ok (.iconst 1, 1) := by decide +kernel
theorem d_Mod_step_189 : decode b_Mod_step 189 = .ok (.iconst 0, 1) := by decide +kernel
theorem d_Mod_step_190 : decode b_Mod_step 190 = .ok (.aload_n 0, 1) := by decide +kernel
theorem d_Mod_step_191 : decode b_Mod_step 191 = .ok (.getfield 50, 3) := by decide +kernel
theorem d_Mod_step_194 : decode b_Mod_step 194 = .ok (.aload_n 0, 1) := by decide +kernel
theorem d_Mod_step_195 : decode b_Mod_step 195 = .ok (.getfield 112, 3) := by decide +kernel
theorem d_Mod_step_198 : decode b_Mod_step 198 = .ok (.iaload, 1) := by decide +kernel
theorem d_Mod_step_199 : decode b_Mod_step 199 = .ok (.invokevirtual 137, 3) := by decide +kernel
theorem d_Mod_step_202 : decode b_Mod_step 202 = .ok (.goto 90, 3) := by decide +kernel
theorem d_Mod_step_205 : decode b_Mod_step 205 = .ok (.iload_n 3, 1) := by decide +kernel
theorem d_Mod_step_206 : decode b_Mod_step 206 = .ok (.iconst 5, 1) := by decide +kernel
theorem d_Mod_step_207 : decode b_Mod_step 207 = .ok (.if_icmp .ge 13, 3) := by decide +kernel
theorem d_Mod_step_210 : decode b_Mod_step 210 = .ok (.aload_n 0, 1) := by decide +kernel
theorem d_Mod_step_211 : decode b_Mod_step 211 = .ok (.iload_n 3, 1) := by decide +kernel
theorem d_Mod_step_212 : decode b_Mod_step 212 = .ok (.iload 4, 2) := by decide +kernel
theorem d_Mod_step_214 : decode b_Mod_step 214 = .ok (.invokevirtual 153, 3) := by decide +kernel
theorem d_Mod_step_217 : decode b_Mod_step 217 = .ok (.goto 75, 3) := by decide +kernel
theorem d_Mod_step_220 : decode b_Mod_step 220 = .ok (.iload_n 3, 1) := by decide +kernel
theorem d_Mod_step_221 : decode b_Mod_step 221 = .ok (.bipush 12, 2) := by decide +kernel
theorem d_Mod_step_223 : decode b_Mod_step 223 = .ok (.if_icmp .ge 11, 3) := by decide +kernel
theorem d_Mod_step_226 : decode b_Mod_step 226 = .ok (.aload_n 0, 1) := by decide +kernel
theorem d_Mod_step_227 : decode b_Mod_step 227 = .ok (.iload_n 3, 1) := by decide +kernel
theorem d_Mod_step_228 : decode b_Mod_step 228 = .ok (.invokevirtual 157, 3) := by decide +kernel
theorem d_Mod_step_231 : decode b_Mod_step 231 = .ok (.goto 61, 3) := by decide +kernel
theorem d_Mod_step_234 : decode b_Mod_step 234 = .ok (.iload_n 3, 1) := by decide +kernel
theorem d_Mod_step_235 : decode b_Mod_step 235 = .ok (.bipush 14, 2) := by decide +kernel
theorem d_Mod_step_237 : decode b_Mod_step 237 = .ok (.if_icmp .ge 36, 3) := by decide +kernel
theorem d_Mod_step_240 : decode b_Mod_step 240 = .ok (.aload_n 0, 1) := by decide +kernel
theorem d_Mod_step_241 : decode b_Mod_step 241 = .ok (.invokevirtual 160, 3) := by decide +kernel
theorem d_Mod_step_244 : decode b_Mod_step 244 = .ok (.istore 6, 2) := by decide +kernel
theorem d_Mod_step_246 : decode b_Mod_step 246 = .ok (.iload_n 3, 1) := by decide +kernel
theorem d_Mod_step_247 : decode b_Mod_step 247 = .ok (.bipush 12, 2) := by decide +kernel
theorem d_Mod_step_249 : decode b_Mod_step 249 = .ok (.if_icmp .eq 10, 3) := by decide +kernel
theorem d_Mod_step_252 : decode b_Mod_step 252 = .ok (.aload_n 0, 1) := by decide +kernel
theorem d_Mod_step_253 : decode b_Mod_step 253 = .ok (.invokevirtual 160, 3) := by decide +kernel
theorem d_Mod_step_256 : decode b_Mod_step 256 = .ok (.ifCond .eq 14, 3) := by decide +kernel
theorem d_Mod_step_259 : decode b_Mod_step 259 = .ok (.aload_n 0, 1) := by decide +kernel
theorem d_Mod_step_260 : decode b_Mod_step 260 = .ok (.getfield 38, 3) := by decide +kernel
theorem d_Mod_step_263 : decode b_Mod_step 263 = .ok (.aload_n 0, 1) := by decide +kernel
theorem d_Mod_step_264 : decode b_Mod_step 264 = .ok (.getfield 112, 3) := by decide +kernel
theorem d_Mod_step_267 : decode b_Mod_step 267 = .ok (.iload 6, 2) := by decide +kernel
theorem d_Mod_step_269 : decode b_Mod_step 269 = .ok (.iastore, 1) := by decide +kernel
theorem d_Mod_step_270 : decode b_Mod_step 270 = .ok (.goto 22, 3) := by decide +kernel
theorem d_Mod_step_273 : decode b_Mod_step 273 = .ok (.iload_n 3, 1) := by decide +kernel
theorem d_Mod_step_274 : decode b_Mod_step 274 = .ok (.bipush 22, 2) := by decide +kernel
theorem d_Mod_step_276 : decode b_Mod_step 276 = .ok (.if_icmp .ge 11, 3) := by decide +kernel
theorem d_Mod_step_279 : decode b_Mod_step 279 = .ok (.aload_n 0, 1) := by decide +kernel
theorem d_Mod_step_280 : decode b_Mod_step 280 = .ok (.iload_n 3, 1) := by decide +kernel
theorem d_Mod_step_281 : decode b_Mod_step 281 = .ok (.invokevirtual 164, 3) := by decide +kernel
theorem d_Mod_step_284 : decode b_Mod_step 284 = .ok (.goto 8, 3) := by decide +kernel
theorem d_Mod_step_287 : decode b_Mod_step 287 = .ok (.aload_n 0, 1) := by decide +kernel
theorem d_Mod_step_288 : decode b_Mod_step 288 = .ok (.iload_n 3, 1) := by decide +kernel
theorem d_Mod_step_289 : decode b_Mod_step 289 = .ok (.invokevirtual 167, 3) := by decide +kernel
theorem d_Mod_step_292 : decode b_Mod_step 292 = .ok (.return_, 1) := by decide +kernel
theorem d_Mod_shuffle_0 : decode b_Mod_shuffle 0 = .ok (.iload_n 1, 1) := by decide +kernel
theorem d_Mod_shuffle_1 : decode b_Mod_shuffle 1 = .ok (.iconst 1, 1) := by decide +kernel
theorem d_Mod_shuffle_2 : decode b_Mod_shuffle 2 = .ok (.if_icmp .ne 11, 3) := by decide +kernel
theorem d_Mod_shuffle_5 : decode b_Mod_shuffle 5 = .ok (.aload_n 0, 1) := by decide +kernel
theorem d_Mod_shuffle_6 : decode b_Mod_shuffle 6 = .ok (.iload_n 2, 1) := by decide +kernel
theorem d_Mod_shuffle_7 : decode b_Mod_shuffle 7 = .ok (.invokevirtual 130, 3) := by decide +kernel
theorem d_Mod_shuffle_10 : decode b_Mod_shuffle 10 = .ok (.goto 85, 3) := by decide +kernel
theorem d_Mod_shuffle_13 : decode b_Mod_shuffle 13 = .ok (.iload_n 1, 1) := by decide +kernel
theorem d_Mod_shuffle_14 : decode b_Mod_shuffle 14 = .ok (.iconst 2, 1) := by decide +kernel
theorem d_Mod_shuffle_15 : decode b_Mod_shuffle 15 = .ok (.if_icmp .ne 11, 3) := by decide +kernel
theorem d_Mod_shuffle_18 : decode b_Mod_shuffle 18 = .ok (.aload_n 0, 1) := by decide +kernel
theorem d_Mod_shuffle_19 : decode b_Mod_shuffle 19 = .ok (.invokevirtual 160, 3) := by decide +kernel
theorem d_Mod_shuffle_22 : decode b_Mod_shuffle 22 = .ok (.pop, 1) := by decide +kernel
theorem d_Mod_shuffle_23 : decode b_Mod_shuffle 23 = .ok (.goto 72, 3) := by decide +kernel
theorem d_Mod_shuffle_26 : decode b_Mod_shuffle 26 = .ok (.iload_n 1, 1) := by decide +kernel
theorem d_Mod_shuffle_27 : decode b_Mod_shuffle 27 = .ok (.iconst 3, 1) := by decide +kernel
theorem d_Mod_shuffle_28 : decode b_Mod_shuffle 28 = .ok (.if_icmp .ne 15, 3) := by decide +kernel
theorem d_Mod_shuffle_31 : decode b_Mod_shuffle 31 = .ok (.aload_n 0, 1) := by decide +kernel
theorem d_Mod_shuffle_32 : decode b_Mod_shuffle 32 = .ok (.aload_n 0, 1) := by decide +kernel
theorem d_Mod_shuffle_33 : decode b_Mod_shuffle 33 = .ok (.iload_n 2, 1) := by decide +kernel
theorem d_Mod_shuffle_34 : decode b_Mod_shuffle 34 = .ok (.invokevirtual 134, 3) := by decide +kernel
theorem d_Mod_shuffle_37 : decode b_Mod_shuffle 37 = .ok (.invokevirtual 130, 3) := by decide +kernel
theorem d_Mod_shuffle_40 : decode b_Mod_shuffle 40 = .ok (.goto 55, 3) := by decide +kernel
theorem d_Mod_shuffle_43 : decode b_Mod_shuffle 43 = .ok (.bipush 12, 2) := by decide +kernel
theorem d_Mod_shuffle_45 : decode b_Mod_shuffle 45 = .ok (.aload_n 0, 1) := by decide +kernel
theorem d_Mod_shuffle_46 : decode b_Mod_shuffle 46 = .ok (.getfield 112, 3) := by decide +kernel
theorem d_Mod_shuffle_49 : decode b_Mod_shuffle 49 = .ok (.imul, 1) := by decide +kernel
theorem d_Mod_shuffle_50 : decode b_Mod_shuffle 50 = .ok (.aload_n 0, 1) := by decide +kernel
theorem d_Mod_shuffle_51 : decode b_Mod_shuffle 51 = .ok (.getfield 53, 3) := by decide +kernel
theorem d_Mod_shuffle_54 : decode b_Mod_shuffle 54 = .ok (.aload_n 0, 1) := by decide +kernel
theorem d_Mod_shuffle_55 : decode b_Mod_shuffle 55 = .ok (.getfield 112, 3) := by decide +kernel
theorem d_Mod_shuffle_58 : decode b_Mod_shuffle 58 = .ok (.iaload, 1) := by decide +kernel
theorem d_Mod_shuffle_59 : decode b_Mod_shuffle 59 = .ok (.iadd, 1) := by decide +kernel
theorem d_Mod_shuffle_60 : decode b_Mod_shuffle 60 = .ok (.iconst 1, 1) := by decide +kernel
theorem d_Mod_shuffle_61 : decode b_Mod_shuffle 61 = .ok (.isub, 1) := by decide +kernel
theorem d_Mod_shuffle_62 : decode b_Mod_shuffle 62 = .ok (.istore_n 3, 1) := by decide +kernel
theorem d_Mod_shuffle_63 : decode b_Mod_shuffle 63 = .ok (.aload_n 0, 1) := by decide +kernel
theorem d_Mod_shuffle_64 : decode b_Mod_shuffle 64 = .ok (.getfield 56, 3) := by decide +kernel
theorem d_Mod_shuffle_67 : decode b_Mod_shuffle 67 = .ok (.iload_n 3, 1) := by decide +kernel
theorem d_Mod_shuffle_68 : decode b_Mod_shuffle 68 = .ok (.iaload, 1) := by decide +kernel
theorem d_Mod_shuffle_69 : decode b_Mod_shuffle 69 = .ok (.istore 4, 2) := by decide +kernel
theorem d_Mod_shuffle_71 : decode b_Mod_shuffle 71 = .ok (.aload_n 0, 1) := by decide +kernel
theorem d_Mod_shuffle_72 : decode b_Mod_shuffle 72 = .ok (.getfield 56, 3) := by decide +kernel
theorem d_Mod_shuffle_75 : decode b_Mod_shuffle 75 = .ok (.iload_n 3, 1) := by decide +kernel
theorem d_Mod_shuffle_76 : decode b_Mod_shuffle 76 = .ok (.aload_n 0, 1) := by decide +kernel
theorem d_Mod_shuffle_77 : decode b_Mod_shuffle 77 = .ok (.getfield 56, 3) := by decide +kernel
theorem d_Mod_shuffle_80 : decode b_Mod_shuffle 80 = .ok (.iload_n 3, 1) := by decide +kernel
theorem d_Mod_shuffle_81 : decode b_Mod_shuffle 81 = .ok (.iload_n 2, 1) := by decide +kernel
theorem d_Mod_shuffle_82 : decode b_Mod_shuffle 82 = .ok (.isub, 1) := by decide +kernel
theorem d_Mod_shuffle_83 : decode b_Mod_shuffle 83 = .ok (.iaload, 1) := by decide +kernel
theorem d_Mod_shuffle_84 : decode b_Mod_shuffle 84 = .ok (.iastore, 1) := by decide +kernel
theorem d_Mod_shuffle_85 : decode b_Mod_shuffle 85 = .ok (.aload_n 0, 1) := by decide +kernel
theorem d_Mod_shuffle_86 : decode b_Mod_shuffle 86 = .ok (.getfield 56, 3) := by decide +kernel
theorem d_Mod_shuffle_89 : decode b_Mod_shuffle 89 = .ok (.iload_n 3, 1) := by decide +kernel
theorem d_Mod_shuffle_90 : decode b_Mod_shuffle 90 = .ok (.iload_n 2, 1) := by decide +kernel
theorem d_Mod_shuffle_91 : decode b_Mod_shuffle 91 = .ok (.isub, 1) := by decide +kernel
theorem d_Mod_shuffle_92 : decode b_Mod_shuffle 92 = .ok (.iload 4, 2) := by decide +kernel
theorem d_Mod_shuffle_94 : decode b_Mod_shuffle 94 = .ok (.iastore, 1) := by decide +kernel
theorem d_Mod_shuffle_95 : decode b_Mod_shuffle 95 = .ok (.return_, 1) := by decide +kernel
theorem d_Mod_reckon_0 : decode b_Mod_reckon 0 = .ok (.aload_n 0, 1) := by decide +kernel
theorem d_Mod_reckon_1 : decode b_Mod_reckon 1 = .ok (.invokevirtual 160, 3) := by decide +kernel
theorem d_Mod_reckon_4 : decode b_Mod_reckon 4 = .ok (.istore_n 2, 1) := by decide +kernel
theorem d_Mod_reckon_5 : decode b_Mod_reckon 5 = .ok (.iload_n 1, 1) := by decide +kernel
theorem d_Mod_reckon_6 : decode b_Mod_reckon 6 = .ok (.bipush 11, 2) := by decide +kernel
theorem d_Mod_reckon_8 : decode b_Mod_reckon 8 = .ok (.if_icmp .ne 17, 3) := by decide +kernel
theorem d_Mod_reckon_11 : decode b_Mod_reckon 11 = .ok (.aload_n 0, 1) := by decide +kernel
theorem d_Mod_reckon_12 : decode b_Mod_reckon 12 = .ok (.iload_n 2, 1) := by decide +kernel
theorem d_Mod_reckon_13 : decode b_Mod_reckon 13 = .ok (.ifCond .ne 7, 3) := by decide +kernel
theorem d_Mod_reckon_16 : decode b_Mod_reckon 16 = .ok (.iconst 1, 1) := by decide +kernel
theorem d_Mod_reckon_17 : decode b_Mod_reckon 17 = .ok (.goto 4, 3) := by decide +kernel
theorem d_Mod_reckon_20 : decode b_Mod_reckon 20 = .ok (.iconst 0, 1) := by decide +kernel
theorem d_Mod_reckon_21 : decode b_Mod_reckon 21 = .ok (.invokevirtual 130, 3) := by decide +kernel
theorem d_Mod_reckon_24 : decode b_Mod_reckon 24 = .ok (.return_, 1) := by decide +kernel
theorem d_Mod_reckon_25 : decode b_Mod_reckon 25 = .ok (.aload_n 0, 1) := by decide +kernel
theorem d_Mod_reckon_26 : decode b_Mod_reckon 26 = .ok (.invokevirtual 160, 3) := by decide +kernel
theorem d_Mod_reckon_29 : decode b_Mod_reckon 29 = .ok (.istore_n 3, 1) := by decide +kernel
theorem d_Mod_reckon_30 : decode b_Mod_reckon 30 = .ok (.aload_n 0, 1) := by decide +kernel
theorem d_Mod_reckon_31 : decode b_Mod_reckon 31 = .ok (.iload_n 1, 1) := by decide +kernel
theorem d_Mod_reckon_32 : decode b_Mod_reckon 32 = .ok (.iconst 5, 1) := by decide +kernel
theorem d_Mod_reckon_33 : decode b_Mod_reckon 33 = .ok (.if_icmp .ne 9, 3) := by decide +kernel
theorem d_Mod_reckon_36 : decode b_Mod_reckon 36 = .ok (.iload_n 3, 1) := by decide +kernel
theorem d_Mod_reckon_37 : decode b_Mod_reckon 37 = .ok (.iload_n 2, 1) := by decide +kernel
theorem d_Mod_reckon_38 : decode b_Mod_reckon 38 = .ok (.iadd, 1) := by decide +kernel
theorem d_Mod_reckon_39 : decode b_Mod_reckon 39 = .ok (.goto 76, 3) := by decide +kernel
theorem d_Mod_reckon_42 : decode b_Mod_reckon 42 = .ok (.iload_n 1, 1) := by decide +kernel
theorem d_Mod_reckon_43 : decode b_Mod_reckon 43 = .ok (.bipush 6, 2) := by decide +kernel
theorem d_Mod_reckon_45 : decode b_Mod_reckon 45 = .ok (.if_icmp .ne 9, 3) := by decide +kernel
theorem d_Mod_reckon_48 : decode b_Mod_reckon 48 = .ok (.iload_n 3, 1) := by decide +kernel
theorem d_Mod_reckon_49 : decode b_Mod_reckon 49 = .ok (.iload_n 2, 1) := by decide +kernel
theorem d_Mod_reckon_50 : decode b_Mod_reckon 50 = .ok (.isub, 1) := by decide +kernel
theorem d_Mod_reckon_51 : decode b_Mod_reckon 51 = .ok (.goto 64, 3) := by decide +kernel
theorem d_Mod_reckon_54 : decode b_Mod_reckon 54 = .ok (.iload_n 1, 1) := by decide +kernel
theorem d_Mod_reckon_55 : decode b_Mod_reckon 55 = .ok (.bipush 7, 2) := by decide +kernel
theorem d_Mod_reckon_57 : decode b_Mod_reckon 57 = .ok (.if_icmp .ne 9, 3) := by decide +kernel
theorem d_Mod_reckon_60 : decode b_Mod_reckon 60 = .ok (.iload_n 3, 1) := by decide +kernel
theorem d_Mod_reckon_61 : decode b_Mod_reckon 61 = .ok (.iload_n 2, 1) := by decide +kernel
theorem d_Mod_reckon_62 : decode b_Mod_reckon 62 = .ok (.imul, 1) := by decide +kernel
theorem d_Mod_reckon_63 : decode b_Mod_reckon 63 = .ok (.goto 52, 3) := by decide +kernel
theorem d_Mod_reckon_66 : decode b_Mod_reckon 66 = .ok (.iload_n 1, 1) := by decide +kernel
theorem d_Mod_reckon_67 : decode b_Mod_reckon 67 = .ok (.bipush 8, 2) := by decide +kernel
theorem d_Mod_reckon_69 : decode b_Mod_reckon 69 = .ok (.if_icmp .ne 17, 3) := by decide +kernel
theorem d_Mod_reckon_72 : decode b_Mod_reckon 72 = .ok (.iload_n 2, 1) := by decide +kernel
theorem d_Mod_reckon_73 : decode b_Mod_reckon 73 = .ok (.ifCond .ne 7, 3) := by decide +kernel
theorem d_Mod_reckon_76 : decode b_Mod_reckon 76 = .ok (.iconst 0, 1) := by decide +kernel
theorem d_Mod_reckon_77 : decode b_Mod_reckon 77 = .ok (.goto 38, 3) := by decide +kernel
theorem d_Mod_reckon_80 : decode b_Mod_reckon 80 = .ok (.iload_n 3, 1) := by decide +kernel
theorem d_Mod_reckon_81 : decode b_Mod_reckon 81 = .ok (.iload_n 2, 1) := by decide +kernel
theorem d_Mod_reckon_82 : decode b_Mod_reckon 82 = .ok (.idiv, 1) := by decide +kernel
theorem d_Mod_reckon_83 : decode b_Mod_reckon 83 = .ok (.goto 32, 3) := by decide +kernel
theorem d_Mod_reckon_86 : decode b_Mod_reckon 86 = .ok (.iload_n 1, 1) := by decide +kernel
theorem d_Mod_reckon_87 : decode b_Mod_reckon 87 = .ok (.bipush 9, 2) := by decide +kernel
theorem d_Mod_reckon_89 : decode b_Mod_reckon 89 = .ok (.if_icmp .ne 16, 3) := by decide +kernel
theorem d_Mod_reckon_92 : decode b_Mod_reckon 92 = .ok (.iload_n 3, 1) := by decide +kernel
theorem d_Mod_reckon_93 : decode b_Mod_reckon 93 = .ok (.iload_n 2, 1) := by decide +kernel
theorem d_Mod_reckon_94 : decode b_Mod_reckon 94 = .ok (.if_icmp .ge 7, 3) := by decide +kernel
theorem d_Mod_reckon_97 : decode b_Mod_reckon 97 = .ok (.iconst 1, 1) := by decide +kernel
theorem d_Mod_reckon_98 : decode b_Mod_reckon 98 = .ok (.goto 17, 3) := by decide +kernel
theorem d_Mod_reckon_101 : decode b_Mod_reckon 101 = .ok (.iconst 0, 1) := by decide +kernel
theorem d_Mod_reckon_102 : decode b_Mod_reckon 102 = .ok (.goto 13, 3) := by decide +kernel
theorem d_Mod_reckon_105 : decode b_Mod_reckon 105 = .ok (.iload_n 3, 1) := by decide +kernel
theorem d_Mod_reckon_106 : decode b_Mod_reckon 106 = .ok (.iload_n 2, 1) := by decide +kernel
theorem d_Mod_reckon_107 : decode b_Mod_reckon 107 = .ok (.if_icmp .ne 7, 3) := by decide +kernel
theorem d_Mod_reckon_110 : decode b_Mod_reckon 110 = .ok (.iconst 1, 1) := by decide +kernel
theorem d_Mod_reckon_111 : decode b_Mod_reckon 111 = .ok (.goto 4, 3) := by decide +kernel
theorem d_Mod_reckon_114 : decode b_Mod_reckon 114 = .ok (.iconst 0, 1) := by decide +kernel
theorem d_Mod_reckon_115 : decode b_Mod_reckon 115 = .ok (.invokevirtual 130, 3) := by decide +kernel
theorem d_Mod_reckon_118 : decode b_Mod_reckon 118 = .ok (.return_, 1) := by decide +kernel
end
section
theorem d_Mod_hold_0 : decode b_Mod_hold 0 = .ok (.aload_n 0, 1) := by decide +kernel
theorem d_Mod_hold_1 : decode b_Mod_hold 1 = .ok (.getfield 32, 3) := by decide +kernel
theorem d_Mod_hold_4 : decode b_Mod_hold 4 = .ok (.aload_n 0, 1) := by decide +kernel
theorem d_Mod_hold_5 : decode b_Mod_hold 5 = .ok (.getfield 112, 3) := by decide +kernel
theorem d_Mod_hold_8 : decode b_Mod_hold 8 = .ok (.iaload, 1) := by decide +kernel
theorem d_Mod_hold_9 : decode b_Mod_hold 9 = .ok (.istore_n 2, 1) := by decide +kernel
theorem d_Mod_hold_10 : decode b_Mod_hold 10 = .ok (.iload_n 1, 1) := by decide +kernel
theorem d_Mod_hold_11 : decode b_Mod_hold 11 = .ok (.bipush 14, 2) := by decide +kernel
theorem d_Mod_hold_13 : decode b_Mod_hold 13 = .ok (.if_icmp .ne 42, 3) := by decide +kernel
theorem d_Mod_hold_16 : decode b_Mod_hold 16 = .ok (.aload_n 0, 1) := by decide +kernel
theorem d_Mod_hold_17 : decode b_Mod_hold 17 = .ok (.invokevirtual 160, 3) := by decide +kernel
theorem d_Mod_hold_20 : decode b_Mod_hold 20 = .ok (.istore_n 3, 1) := by decide +kernel
theorem d_Mod_hold_21 : decode b_Mod_hold 21 = .ok (.aload_n 0, 1) := by decide +kernel
theorem d_Mod_hold_22 : decode b_Mod_hold 22 = .ok (.iload_n 3, 1) := by decide +kernel
theorem d_Mod_hold_23 : decode b_Mod_hold 23 = .ok (.bipush 8, 2) := by decide +kernel
theorem d_Mod_hold_25 : decode b_Mod_hold 25 = .ok (.invokestatic 81, 3) := by decide +kernel
theorem d_Mod_hold_28 : decode b_Mod_hold 28 = .ok (.ifCond .eq 20, 3) := by decide +kernel
theorem d_Mod_hold_31 : decode b_Mod_hold 31 = .ok (.aload_n 0, 1) := by decide +kernel
theorem d_Mod_hold_32 : decode b_Mod_hold 32 = .ok (.getfield 7, 3) := by decide +kernel
theorem d_Mod_hold_35 : decode b_Mod_hold 35 = .ok (.bipush 36, 2) := by decide +kernel
theorem d_Mod_hold_37 : decode b_Mod_hold 37 = .ok (.iload_n 2, 1) := by decide +kernel
theorem d_Mod_hold_38 : decode b_Mod_hold 38 = .ok (.imul, 1) := by decide +kernel
theorem d_Mod_hold_39 : decode b_Mod_hold 39 = .ok (.bipush 27, 2) := by decide +kernel
theorem d_Mod_hold_41 : decode b_Mod_hold 41 = .ok (.iadd, 1) := by decide +kernel
theorem d_Mod_hold_42 : decode b_Mod_hold 42 = .ok (.iload_n 3, 1) := by decide +kernel
theorem d_Mod_hold_43 : decode b_Mod_hold 43 = .ok (.iadd, 1) := by decide +kernel
theorem d_Mod_hold_44 : decode b_Mod_hold 44 = .ok (.iaload, 1) := by decide +kernel
theorem d_Mod_hold_45 : decode b_Mod_hold 45 = .ok (.goto 4, 3) := by decide +kernel
theorem d_Mod_hold_48 : decode b_Mod_hold 48 = .ok (.iconst 0, 1) := by decide +kernel
theorem d_Mod_hold_49 : decode b_Mod_hold 49 = .ok (.invokevirtual 130, 3) := by decide +kernel
theorem d_Mod_hold_52 : decode b_Mod_hold 52 = .ok (.goto 197, 3) := by decide +kernel
theorem d_Mod_hold_55 : decode b_Mod_hold 55 = .ok (.iload_n 1, 1) := by decide +kernel
theorem d_Mod_hold_56 : decode b_Mod_hold 56 = .ok (.bipush 15, 2) := by decide +kernel
theorem d_Mod_hold_58 : decode b_Mod_hold 58 = .ok (.if_icmp .ne 74, 3) := by decide +kernel
theorem d_Mod_hold_61 : decode b_Mod_hold 61 = .ok (.aload_n 0, 1) := by decide +kernel
theorem d_Mod_hold_62 : decode b_Mod_hold 62 = .ok (.invokevirtual 160, 3) := by decide +kernel
theorem d_Mod_hold_65 : decode b_Mod_hold 65 = .ok (.istore_n 3, 1) := by decide +kernel
theorem d_Mod_hold_66 : decode b_Mod_hold 66 = .ok (.aload_n 0, 1) := by decide +kernel
theorem d_Mod_hold_67 : decode b_Mod_hold 67 = .ok (.invokevirtual 160, 3) := by decide +kernel
theorem d_Mod_hold_70 : decode b_Mod_hold 70 = .ok (.istore 4, 2) := by decide +kernel
theorem d_Mod_hold_72 : decode b_Mod_hold 72 = .ok (.aload_n 0, 1) := by decide +kernel
theorem d_Mod_hold_73 : decode b_Mod_hold 73 = .ok (.getfield 7, 3) := by decide +kernel
theorem d_Mod_hold_76 : decode b_Mod_hold 76 = .ok (.bipush 36, 2) := by decide +kernel
theorem d_Mod_hold_78 : decode b_Mod_hold 78 = .ok (.iload_n 2, 1) := by decide +kernel
theorem d_Mod_hold_79 : decode b_Mod_hold 79 = .ok (.imul, 1) := by decide +kernel
theorem d_Mod_hold_80 : decode b_Mod_hold 80 = .ok (.bipush 27, 2) := by decide +kernel
theorem d_Mod_hold_82 : decode b_Mod_hold 82 = .ok (.iadd, 1) := by decide +kernel
theorem d_Mod_hold_83 : decode b_Mod_hold 83 = .ok (.iload_n 3, 1) := by decide +kernel
theorem d_Mod_hold_84 : decode b_Mod_hold 84 = .ok (.iadd, 1) := by decide +kernel
theorem d_Mod_hold_85 : decode b_Mod_hold 85 = .ok (.iaload, 1) := by decide +kernel
theorem d_Mod_hold_86 : decode b_Mod_hold 86 = .ok (.istore 5, 2) := by decide +kernel
theorem d_Mod_hold_88 : decode b_Mod_hold 88 = .ok (.aload_n 0, 1) := by decide +kernel
theorem d_Mod_hold_89 : decode b_Mod_hold 89 = .ok (.dup, 1) := by decide +kernel
theorem d_Mod_hold_90 : decode b_Mod_hold 90 = .ok (.getfield 115, 3) := by decide +kernel
theorem d_Mod_hold_93 : decode b_Mod_hold 93 = .ok (.iload 5, 2) := by decide +kernel
theorem d_Mod_hold_95 : decode b_Mod_hold 95 = .ok (.ifCond .eq 13, 3) := by decide +kernel
theorem d_Mod_hold_98 : decode b_Mod_hold 98 = .ok (.iload 4, 2) := by decide +kernel
theorem d_Mod_hold_100 : decode b_Mod_hold 100 = .ok (.ifCond .ne 8, 3) := by decide +kernel
theorem d_Mod_hold_103 : decode b_Mod_hold 103 = .ok (.bipush 15, 2) := by decide +kernel
theorem d_Mod_hold_105 : decode b_Mod_hold 105 = .ok (.goto 4, 3) := by decide +kernel
theorem d_Mod_hold_108 : decode b_Mod_hold 108 = .ok (.iconst 0, 1) := by decide +kernel
theorem d_Mod_hold_109 : decode b_Mod_hold 109 = .ok (.iadd, 1) := by decide +kernel
theorem d_Mod_hold_110 : decode b_Mod_hold 110 = .ok (.putfield 115, 3) := by decide +kernel
theorem d_Mod_hold_113 : decode b_Mod_hold 113 = .ok (.aload_n 0, 1) := by decide +kernel
theorem d_Mod_hold_114 : decode b_Mod_hold 114 = .ok (.getfield 7, 3) := by decide +kernel
theorem d_Mod_hold_117 : decode b_Mod_hold 117 = .ok (.bipush 36, 2) := by decide +kernel
theorem d_Mod_hold_119 : decode b_Mod_hold 119 = .ok (.iload_n 2, 1) := by decide +kernel
theorem d_Mod_hold_120 : decode b_Mod_hold 120 = .ok (.imul, 1) := by decide +kernel
theorem d_Mod_hold_121 : decode b_Mod_hold 121 = .ok (.bipush 27, 2) := by decide +kernel
theorem d_Mod_hold_123 : decode b_Mod_hold 123 = .ok (.iadd, 1) := by decide +kernel
theorem d_Mod_hold_124 : decode b_Mod_hold 124 = .ok (.iload_n 3, 1) := by decide +kernel
theorem d_Mod_hold_125 : decode b_Mod_hold 125 = .ok (.iadd, 1) := by decide +kernel
theorem d_Mod_hold_126 : decode b_Mod_hold 126 = .ok (.iload 4, 2) := by decide +kernel
theorem d_Mod_hold_128 : decode b_Mod_hold 128 = .ok (.iastore, 1) := by decide +kernel
theorem d_Mod_hold_129 : decode b_Mod_hold 129 = .ok (.goto 120, 3) := by decide +kernel
theorem d_Mod_hold_132 : decode b_Mod_hold 132 = .ok (.iload_n 1, 1) := by decide +kernel
theorem d_Mod_hold_133 : decode b_Mod_hold 133 = .ok (.bipush 16, 2) := by decide +kernel
theorem d_Mod_hold_135 : decode b_Mod_hold 135 = .ok (.if_icmp .ne 37, 3) := by decide +kernel
theorem d_Mod_hold_138 : decode b_Mod_hold 138 = .ok (.aload_n 0, 1) := by decide +kernel
theorem d_Mod_hold_139 : decode b_Mod_hold 139 = .ok (.invokevirtual 160, 3) := by decide +kernel
theorem d_Mod_hold_142 : decode b_Mod_hold 142 = .ok (.istore_n 3, 1) := by decide +kernel
theorem d_Mod_hold_143 : decode b_Mod_hold 143 = .ok (.aload_n 0, 1) := by decide +kernel
theorem d_Mod_hold_144 : decode b_Mod_hold 144 = .ok (.iload_n 3, 1) := by decide +kernel
theorem d_Mod_hold_145 : decode b_Mod_hold 145 = .ok (.bipush 16, 2) := by decide +kernel
theorem d_Mod_hold_147 : decode b_Mod_hold 147 = .ok (.invokestatic 81, 3) := by decide +kernel
theorem d_Mod_hold_150 : decode b_Mod_hold 150 = .ok (.ifCond .eq 15, 3) := by decide +kernel
theorem d_Mod_hold_153 : decode b_Mod_hold 153 = .ok (.aload_n 0, 1) := by decide +kernel
theorem d_Mod_hold_154 : decode b_Mod_hold 154 = .ok (.getfield 7, 3) := by decide +kernel
theorem d_Mod_hold_157 : decode b_Mod_hold 157 = .ok (.bipush 36, 2) := by decide +kernel
theorem d_Mod_hold_159 : decode b_Mod_hold 159 = .ok (.iload_n 3, 1) := by decide +kernel
theorem d_Mod_hold_160 : decode b_Mod_hold 160 = .ok (.imul, 1) := by decide +kernel
theorem d_Mod_hold_161 : decode b_Mod_hold 161 = .ok (.iaload, 1) := by decide +kernel
theorem d_Mod_hold_162 : decode b_Mod_hold 162 = .ok (.goto 4, 3) := by decide +kernel
theorem d_Mod_hold_165 : decode b_Mod_hold 165 = .ok (.iconst 0, 1) := by decide +kernel
theorem d_Mod_hold_166 : decode b_Mod_hold 166 = .ok (.invokevirtual 130, 3) := by decide +kernel
theorem d_Mod_hold_169 : decode b_Mod_hold 169 = .ok (.goto 80, 3) := by decide +kernel
theorem d_Mod_hold_172 : decode b_Mod_hold 172 = .ok (.aload_n 0, 1) := by decide +kernel
theorem d_Mod_hold_173 : decode b_Mod_hold 173 = .ok (.iload_n 1, 1) := by decide +kernel
theorem d_Mod_hold_174 : decode b_Mod_hold 174 = .ok (.bipush 17, 2) := by decide +kernel
theorem d_Mod_hold_176 : decode b_Mod_hold 176 = .ok (.if_icmp .ne 7, 3) := by decide +kernel
theorem d_Mod_hold_179 : decode b_Mod_hold 179 = .ok (.iload_n 2, 1) := by decide +kernel
theorem d_Mod_hold_180 : decode b_Mod_hold 180 = .ok (.goto 66, 3) := by decide +kernel
theorem d_Mod_hold_183 : decode b_Mod_hold 183 = .ok (.iload_n 1, 1) := by decide +kernel
theorem d_Mod_hold_184 : decode b_Mod_hold 184 = .ok (.bipush 18, 2) := by decide +kernel
theorem d_Mod_hold_186 : decode b_Mod_hold 186 = .ok (.if_icmp .ne 15, 3) := by decide +kernel
theorem d_Mod_hold_189 : decode b_Mod_hold 189 = .ok (.aload_n 0, 1) := by decide +kernel
theorem d_Mod_hold_190 : decode b_Mod_hold 190 = .ok (.getfield 41, 3) := by decide +kernel
theorem d_Mod_hold_193 : decode b_Mod_hold 193 = .ok (.aload_n 0, 1) := by decide +kernel
theorem d_Mod_hold_194 : decode b_Mod_hold 194 = .ok (.getfield 112, 3) := by decide +kernel
theorem d_Mod_hold_197 : decode b_Mod_hold 197 = .ok (.iaload, 1) := by decide +kernel
theorem d_Mod_hold_198 : decode b_Mod_hold 198 = .ok (.goto 48, 3) := by decide +kernel
theorem d_Mod_hold_201 : decode b_Mod_hold 201 = .ok (.iload_n 1, 1) := by decide +kernel
theorem d_Mod_hold_202 : decode b_Mod_hold 202 = .ok (.bipush 19, 2) := by decide +kernel
theorem d_Mod_hold_204 : decode b_Mod_hold 204 = .ok (.if_icmp .ne 15, 3) := by decide +kernel
theorem d_Mod_hold_207 : decode b_Mod_hold 207 = .ok (.aload_n 0, 1) := by decide +kernel
theorem d_Mod_hold_208 : decode b_Mod_hold 208 = .ok (.getfield 44, 3) := by decide +kernel
theorem d_Mod_hold_211 : decode b_Mod_hold 211 = .ok (.aload_n 0, 1) := by decide +kernel
theorem d_Mod_hold_212 : decode b_Mod_hold 212 = .ok (.getfield 112, 3) := by decide +kernel
theorem d_Mod_hold_215 : decode b_Mod_hold 215 = .ok (.iaload, 1) := by decide +kernel
theorem d_Mod_hold_216 : decode b_Mod_hold 216 = .ok (.goto 30, 3) := by decide +kernel
theorem d_Mod_hold_219 : decode b_Mod_hold 219 = .ok (.iload_n 1, 1) := by decide +kernel
theorem d_Mod_hold_220 : decode b_Mod_hold 220 = .ok (.bipush 20, 2) := by decide +kernel
theorem d_Mod_hold_222 : decode b_Mod_hold 222 = .ok (.if_icmp .ne 15, 3) := by decide +kernel
theorem d_Mod_hold_225 : decode b_Mod_hold 225 = .ok (.aload_n 0, 1) := by decide +kernel
theorem d_Mod_hold_226 : decode b_Mod_hold 226 = .ok (.getfield 47, 3) := by decide +kernel
theorem d_Mod_hold_229 : decode b_Mod_hold 229 = .ok (.aload_n 0, 1) := by decide +kernel
theorem d_Mod_hold_230 : decode b_Mod_hold 230 = .ok (.getfield 112, 3) := by decide +kernel
theorem d_Mod_hold_233 : decode b_Mod_hold 233 = .ok (.iaload, 1) := by decide +kernel
theorem d_Mod_hold_234 : decode b_Mod_hold 234 = .ok (.goto 12, 3) := by decide +kernel
theorem d_Mod_hold_237 : decode b_Mod_hold 237 = .ok (.aload_n 0, 1) := by decide +kernel
theorem d_Mod_hold_238 : decode b_Mod_hold 238 = .ok (.getfield 50, 3) := by decide +kernel
theorem d_Mod_hold_241 : decode b_Mod_hold 241 = .ok (.aload_n 0, 1) := by decide +kernel
theorem d_Mod_hold_242 : decode b_Mod_hold 242 = .ok (.getfield 112, 3) := by decide +kernel
theorem d_Mod_hold_245 : decode b_Mod_hold 245 = .ok (.iaload, 1) := by decide +kernel
theorem d_Mod_hold_246 : decode b_Mod_hold 246 = .ok (.invokevirtual 130, 3) := by decide +kernel
theorem d_Mod_hold_249 : decode b_Mod_hold 249 = .ok (.return_, 1) := by decide +kernel
theorem d_Mod_act_0 : decode b_Mod_act 0 = .ok (.aload_n 0, 1) := by decide +kernel
theorem d_Mod_act_1 : decode b_Mod_act 1 = .ok (.getfield 32, 3) := by decide +kernel
theorem d_Mod_act_4 : decode b_Mod_act 4 = .ok (.aload_n 0, 1) := by decide +kernel
theorem d_Mod_act_5 : decode b_Mod_act 5 = .ok (.getfield 112, 3) := by decide +kernel
theorem d_Mod_act_8 : decode b_Mod_act 8 = .ok (.iaload, 1) := by decide +kernel
theorem d_Mod_act_9 : decode b_Mod_act 9 = .ok (.istore_n 2, 1) := by decide +kernel
theorem d_Mod_act_10 : decode b_Mod_act 10 = .ok (.iload_n 1, 1) := by decide +kernel
theorem d_Mod_act_11 : decode b_Mod_act 11 = .ok (.bipush 22, 2) := by decide +kernel
theorem d_Mod_act_13 : decode b_Mod_act 13 = .ok (.if_icmp .eq 9, 3) := by decide +kernel
theorem d_Mod_act_16 : decode b_Mod_act 16 = .ok (.iload_n 1, 1) := by decide +kernel
theorem d_Mod_act_17 : decode b_Mod_act 17 = .ok (.bipush 23, 2) := by decide +kernel
theorem d_Mod_act_19 : decode b_Mod_act 19 = .ok (.if_icmp .ne 21, 3) := by decide +kernel
theorem d_Mod_act_22 : decode b_Mod_act 22 = .ok (.aload_n 0, 1) := by decide +kernel
theorem d_Mod_act_23 : decode b_Mod_act 23 = .ok (.iload_n 1, 1) := by decide +kernel
theorem d_Mod_act_24 : decode b_Mod_act 24 = .ok (.bipush 22, 2) := by decide +kernel
theorem d_Mod_act_26 : decode b_Mod_act 26 = .ok (.if_icmp .ne 7, 3) := by decide +kernel
theorem d_Mod_act_29 : decode b_Mod_act 29 = .ok (.iconst 1, 1) := by decide +kernel
theorem d_Mod_act_30 : decode b_Mod_act 30 = .ok (.goto 4, 3) := by decide +kernel
theorem d_Mod_act_33 : decode b_Mod_act 33 = .ok (.iconst 0, 1) := by decide +kernel
theorem d_Mod_act_34 : decode b_Mod_act 34 = .ok (.invokevirtual 170, 3) := by decide +kernel
theorem d_Mod_act_37 : decode b_Mod_act 37 = .ok (.goto 151, 3) := by decide +kernel
theorem d_Mod_act_40 : decode b_Mod_act 40 = .ok (.iload_n 1, 1) := by decide +kernel
theorem d_Mod_act_41 : decode b_Mod_act 41 = .ok (.bipush 24, 2) := by decide +kernel
theorem d_Mod_act_43 : decode b_Mod_act 43 = .ok (.if_icmp .ne 10, 3) := by decide +kernel
theorem d_Mod_act_46 : decode b_Mod_act 46 = .ok (.aload_n 0, 1) := by decide +kernel
theorem d_Mod_act_47 : decode b_Mod_act 47 = .ok (.invokevirtual 174, 3) := by decide +kernel
theorem d_Mod_act_50 : decode b_Mod_act 50 = .ok (.goto 138, 3) := by decide +kernel
theorem d_Mod_act_53 : decode b_Mod_act 53 = .ok (.iload_n 1, 1) := by decide +kernel
theorem d_Mod_act_54 : decode b_Mod_act 54 = .ok (.bipush 25, 2) := by decide +kernel
theorem d_Mod_act_56 : decode b_Mod_act 56 = .ok (.if_icmp .ne 39, 3) := by decide +kernel
theorem d_Mod_act_59 : decode b_Mod_act 59 = .ok (.aload_n 0, 1) := by decide +kernel
theorem d_Mod_act_60 : decode b_Mod_act 60 = .ok (.getfield 19, 3) := by decide +kernel
theorem d_Mod_act_63 : decode b_Mod_act 63 = .ok (.aload_n 0, 1) := by decide +kernel
theorem d_Mod_act_64 : decode b_Mod_act 64 = .ok (.getfield 118, 3) := by decide +kernel
theorem d_Mod_act_67 : decode b_Mod_act 67 = .ok (.iload_n 2, 1) := by decide +kernel
theorem d_Mod_act_68 : decode b_Mod_act 68 = .ok (.iastore, 1) := by decide +kernel
theorem d_Mod_act_69 : decode b_Mod_act 69 = .ok (.aload_n 0, 1) := by decide +kernel
theorem d_Mod_act_70 : decode b_Mod_act 70 = .ok (.getfield 22, 3) := by decide +kernel
theorem d_Mod_act_73 : decode b_Mod_act 73 = .ok (.aload_n 0, 1) := by decide +kernel
theorem d_Mod_act_74 : decode b_Mod_act 74 = .ok (.getfield 118, 3) := by decide +kernel
theorem d_Mod_act_77 : decode b_Mod_act 77 = .ok (.aload_n 0, 1) := by decide +kernel
theorem d_Mod_act_78 : decode b_Mod_act 78 = .ok (.invokevirtual 160, 3) := by decide +kernel
theorem d_Mod_act_81 : decode b_Mod_act 81 = .ok (.iastore, 1) := by decide +kernel
theorem d_Mod_act_82 : decode b_Mod_act 82 = .ok (.aload_n 0, 1) := by decide +kernel
theorem d_Mod_act_83 : decode b_Mod_act 83 = .ok (.dup, 1) := by decide +kernel
theorem d_Mod_act_84 : decode b_Mod_act 84 = .ok (.getfield 118, 3) := by decide +kernel
theorem d_Mod_act_87 : decode b_Mod_act 87 = .ok (.iconst 1, 1) := by decide +kernel
theorem d_Mod_act_88 : decode b_Mod_act 88 = .ok (.iadd, 1) := by decide +kernel
theorem d_Mod_act_89 : decode b_Mod_act 89 = .ok (.putfield 118, 3) := by decide +kernel
theorem d_Mod_act_92 : decode b_Mod_act 92 = .ok (.goto 96, 3) := by decide +kernel
theorem d_Mod_act_95 : decode b_Mod_act 95 = .ok (.iload_n 1, 1) := by decide +kernel
theorem d_Mod_act_96 : decode b_Mod_act 96 = .ok (.bipush 26, 2) := by decide +kernel
theorem d_Mod_act_98 : decode b_Mod_act 98 = .ok (.if_icmp .eq 9, 3) := by decide +kernel
theorem d_Mod_act_101 : decode b_Mod_act 101 = .ok (.iload_n 1, 1) := by decide +kernel
theorem d_Mod_act_102 : decode b_Mod_act 102 = .ok (.bipush 27, 2) := by decide +kernel
theorem d_Mod_act_104 : decode b_Mod_act 104 = .ok (.if_icmp .ne 36, 3) := by decide +kernel
theorem d_Mod_act_107 : decode b_Mod_act 107 = .ok (.aload_n 0, 1) := by decide +kernel
theorem d_Mod_act_108 : decode b_Mod_act 108 = .ok (.invokevirtual 160, 3) := by decide +kernel
theorem d_Mod_act_111 : decode b_Mod_act 111 = .ok (.istore_n 3, 1) := by decide +kernel
theorem d_Mod_act_112 : decode b_Mod_act 112 = .ok (.aload_n 0, 1) := by decide +kernel
theorem d_Mod_act_113 : decode b_Mod_act 113 = .ok (.iload_n 1, 1) := by decide +kernel
theorem d_Mod_act_114 : decode b_Mod_act 114 = .ok (.bipush 26, 2) := by decide +kernel
theorem d_Mod_act_116 : decode b_Mod_act 116 = .ok (.if_icmp .ne 7, 3) := by decide +kernel
theorem d_Mod_act_119 : decode b_Mod_act 119 = .ok (.iconst 1, 1) := by decide +kernel
theorem d_Mod_act_120 : decode b_Mod_act 120 = .ok (.goto 4, 3) := by decide +kernel
theorem d_Mod_act_123 : decode b_Mod_act 123 = .ok (.iconst 0, 1) := by decide +kernel
theorem d_Mod_act_124 : decode b_Mod_act 124 = .ok (.iload_n 3, 1) := by decide +kernel
theorem d_Mod_act_125 : decode b_Mod_act 125 = .ok (.aload_n 0, 1) := by decide +kernel
theorem d_Mod_act_126 : decode b_Mod_act 126 = .ok (.getfield 50, 3) := by decide +kernel
theorem d_Mod_act_129 : decode b_Mod_act 129 = .ok (.aload_n 0, 1) := by decide +kernel
theorem d_Mod_act_130 : decode b_Mod_act 130 = .ok (.getfield 112, 3) := by decide +kernel
theorem d_Mod_act_133 : decode b_Mod_act 133 = .ok (.iaload, 1) := by decide +kernel
theorem d_Mod_act_134 : decode b_Mod_act 134 = .ok (.invokevirtual 137, 3) := by decide +kernel
theorem d_Mod_act_137 : decode b_Mod_act 137 = .ok (.goto 51, 3) := by decide +kernel
theorem d_Mod_act_140 : decode b_Mod_act 140 = .ok (.aload_n 0, 1) := by decide +kernel
theorem d_Mod_act_141 : decode b_Mod_act 141 = .ok (.invokevirtual 160, 3) := by decide +kernel
theorem d_Mod_act_144 : decode b_Mod_act 144 = .ok (.istore_n 3, 1) := by decide +kernel
theorem d_Mod_act_145 : decode b_Mod_act 145 = .ok (.aload_n 0, 1) := by decide +kernel
theorem d_Mod_act_146 : decode b_Mod_act 146 = .ok (.iload_n 2, 1) := by decide +kernel
theorem d_Mod_act_147 : decode b_Mod_act 147 = .ok (.iload_n 3, 1) := by decide +kernel
theorem d_Mod_act_148 : decode b_Mod_act 148 = .ok (.aload_n 0, 1) := by decide +kernel
theorem d_Mod_act_149 : decode b_Mod_act 149 = .ok (.getfield 7, 3) := by decide +kernel
theorem d_Mod_act_152 : decode b_Mod_act 152 = .ok (.bipush 36, 2) := by decide +kernel
theorem d_Mod_act_154 : decode b_Mod_act 154 = .ok (.iload_n 2, 1) := by decide +kernel
theorem d_Mod_act_155 : decode b_Mod_act 155 = .ok (.imul, 1) := by decide +kernel
theorem d_Mod_act_156 : decode b_Mod_act 156 = .ok (.iaload, 1) := by decide +kernel
theorem d_Mod_act_157 : decode b_Mod_act 157 = .ok (.invokevirtual 177, 3) := by decide +kernel
theorem d_Mod_act_160 : decode b_Mod_act 160 = .ok (.aload_n 0, 1) := by decide +kernel
theorem d_Mod_act_161 : decode b_Mod_act 161 = .ok (.getfield 7, 3) := by decide +kernel
theorem d_Mod_act_164 : decode b_Mod_act 164 = .ok (.bipush 36, 2) := by decide +kernel
theorem d_Mod_act_166 : decode b_Mod_act 166 = .ok (.iload_n 2, 1) := by decide +kernel
theorem d_Mod_act_167 : decode b_Mod_act 167 = .ok (.imul, 1) := by decide +kernel
theorem d_Mod_act_168 : decode b_Mod_act 168 = .ok (.bipush 35, 2) := by decide +kernel
theorem d_Mod_act_170 : decode b_Mod_act 170 = .ok (.iadd, 1) := by decide +kernel
theorem d_Mod_act_171 : decode b_Mod_act 171 = .ok (.iconst 1, 1) := by decide +kernel
theorem d_Mod_act_172 : decode b_Mod_act 172 = .ok (.iastore, 1) := by decide +kernel
theorem d_Mod_act_173 : decode b_Mod_act 173 = .ok (.aload_n 0, 1) := by decide +kernel
theorem d_Mod_act_174 : decode b_Mod_act 174 = .ok (.iconst 1, 1) := by decide +kernel
theorem d_Mod_act_175 : decode b_Mod_act 175 = .ok (.iconst 0, 1) := by decide +kernel
theorem d_Mod_act_176 : decode b_Mod_act 176 = .ok (.aload_n 0, 1) := by decide +kernel
theorem d_Mod_act_177 : decode b_Mod_act 177 = .ok (.getfield 50, 3) := by decide +kernel
theorem d_Mod_act_180 : decode b_Mod_act 180 = .ok (.aload_n 0, 1) := by decide +kernel
theorem d_Mod_act_181 : decode b_Mod_act 181 = .ok (.getfield 112, 3) := by decide +kernel
theorem d_Mod_act_184 : decode b_Mod_act 184 = .ok (.iaload, 1) := by decide +kernel
theorem d_Mod_act_185 : decode b_Mod_act 185 = .ok (.invokevirtual 137, 3) := by decide +kernel
theorem d_Mod_act_188 : decode b_Mod_act 188 = .ok (.return_, 1) := by decide +kernel
theorem d_Mod_call_0 : decode b_Mod_call 0 = .ok (.aload_n 0, 1) := by decide +kernel
theorem d_Mod_call_1 : decode b_Mod_call 1 = .ok (.getfield 32, 3) := by decide +kernel
theorem d_Mod_call_4 : decode b_Mod_call 4 = .ok (.aload_n 0, 1) := by decide +kernel
theorem d_Mod_call_5 : decode b_Mod_call 5 = .ok (.getfield 112, 3) := by decide +kernel
theorem d_Mod_call_8 : decode b_Mod_call 8 = .ok (.iaload, 1) := by decide +kernel
theorem d_Mod_call_9 : decode b_Mod_call 9 = .ok (.istore_n 2, 1) := by decide +kernel
theorem d_Mod_call_10 : decode b_Mod_call 10 = .ok (.aload_n 0, 1) := by decide +kernel
theorem d_Mod_call_11 : decode b_Mod_call 11 = .ok (.invokevirtual 160, 3) := by decide +kernel
theorem d_Mod_call_14 : decode b_Mod_call 14 = .ok (.istore_n 3, 1) := by decide +kernel
theorem d_Mod_call_15 : decode b_Mod_call 15 = .ok (.aload_n 0, 1) := by decide +kernel
theorem d_Mod_call_16 : decode b_Mod_call 16 = .ok (.invokevirtual 160, 3) := by decide +kernel
theorem d_Mod_call_19 : decode b_Mod_call 19 = .ok (.istore 4, 2) := by decide +kernel
theorem d_Mod_call_21 : decode b_Mod_call 21 = .ok (.iload_n 1, 1) := by decide +kernel
theorem d_Mod_call_22 : decode b_Mod_call 22 = .ok (.ifCond .eq 10, 3) := by decide +kernel
theorem d_Mod_call_25 : decode b_Mod_call 25 = .ok (.aload_n 0, 1) := by decide +kernel
theorem d_Mod_call_26 : decode b_Mod_call 26 = .ok (.invokevirtual 160, 3) := by decide +kernel
theorem d_Mod_call_29 : decode b_Mod_call 29 = .ok (.goto 4, 3) := by decide +kernel
theorem d_Mod_call_32 : decode b_Mod_call 32 = .ok (.iconst 0, 1) := by decide +kernel
theorem d_Mod_call_33 : decode b_Mod_call 33 = .ok (.istore 5, 2) := by decide +kernel
theorem d_Mod_call_35 : decode b_Mod_call 35 = .ok (.aload_n 0, 1) := by decide +kernel
theorem d_Mod_call_36 : decode b_Mod_call 36 = .ok (.invokevirtual 160, 3) := by decide +kernel
theorem d_Mod_call_39 : decode b_Mod_call 39 = .ok (.istore 6, 2) := by decide +kernel
theorem d_Mod_call_41 : decode b_Mod_call 41 = .ok (.iload 4, 2) := by decide +kernel
theorem d_Mod_call_43 : decode b_Mod_call 43 = .ok (.bipush 16, 2) := by decide +kernel
theorem d_Mod_call_45 : decode b_Mod_call 45 = .ok (.invokestatic 81, 3) := by decide +kernel
theorem d_Mod_call_48 : decode b_Mod_call 48 = .ok (.ifCond .eq 26, 3) := by decide +kernel
theorem d_Mod_call_51 : decode b_Mod_call 51 = .ok (.aload_n 0, 1) := by decide +kernel
theorem d_Mod_call_52 : decode b_Mod_call 52 = .ok (.getfield 7, 3) := by decide +kernel
theorem d_Mod_call_55 : decode b_Mod_call 55 = .ok (.bipush 36, 2) := by decide +kernel
theorem d_Mod_call_57 : decode b_Mod_call 57 = .ok (.iload_n 2, 1) := by decide +kernel
theorem d_Mod_call_58 : decode b_Mod_call 58 = .ok (.imul, 1) := by decide +kernel
theorem d_Mod_call_59 : decode b_Mod_call 59 = .ok (.iaload, 1) := by decide +kernel
theorem d_Mod_call_60 : decode b_Mod_call 60 = .ok (.iload 5, 2) := by decide +kernel
theorem d_Mod_call_62 : decode b_Mod_call 62 = .ok (.if_icmp .lt 12, 3) := by decide +kernel
theorem d_Mod_call_65 : decode b_Mod_call 65 = .ok (.aload_n 0, 1) := by decide +kernel
theorem d_Mod_call_66 : decode b_Mod_call 66 = .ok (.getfield 112, 3) := by decide +kernel
theorem d_Mod_call_69 : decode b_Mod_call 69 = .ok (.bipush 7, 2) := by decide +kernel
theorem d_Mod_call_71 : decode b_Mod_call 71 = .ok (.if_icmp .ne 14, 3) := by decide +kernel
theorem d_Mod_call_74 : decode b_Mod_call 74 = .ok (.aload_n 0, 1) := by decide +kernel
theorem d_Mod_call_75 : decode b_Mod_call 75 = .ok (.iconst 0, 1) := by decide +kernel
theorem d_Mod_call_76 : decode b_Mod_call 76 = .ok (.invokevirtual 130, 3) := by decide +kernel
theorem d_Mod_call_79 : decode b_Mod_call 79 = .ok (.aload_n 0, 1) := by decide +kernel
theorem d_Mod_call_80 : decode b_Mod_call 80 = .ok (.iconst 0, 1) := by decide +kernel
theorem d_Mod_call_81 : decode b_Mod_call 81 = .ok (.invokevirtual 130, 3) := by decide +kernel
theorem d_Mod_call_84 : decode b_Mod_call 84 = .ok (.return_, 1) := by decide +kernel
theorem d_Mod_call_85 : decode b_Mod_call 85 = .ok (.iload_n 3, 1) := by decide +kernel
theorem d_Mod_call_86 : decode b_Mod_call 86 = .ok (.ifCond .ge 7, 3) := by decide +kernel
theorem d_Mod_call_89 : decode b_Mod_call 89 = .ok (.iconst 0, 1) := by decide +kernel
theorem d_Mod_call_90 : decode b_Mod_call 90 = .ok (.goto 29, 3) := by decide +kernel
theorem d_Mod_call_93 : decode b_Mod_call 93 = .ok (.iload_n 3, 1) := by decide +kernel
theorem d_Mod_call_94 : decode b_Mod_call 94 = .ok (.aload_n 0, 1) := by decide +kernel
theorem d_Mod_call_95 : decode b_Mod_call 95 = .ok (.getfield 50, 3) := by decide +kernel
theorem d_Mod_call_98 : decode b_Mod_call 98 = .ok (.aload_n 0, 1) := by decide +kernel
theorem d_Mod_call_99 : decode b_Mod_call 99 = .ok (.getfield 112, 3) := by decide +kernel
theorem d_Mod_call_102 : decode b_Mod_call 102 = .ok (.iaload, 1) := by decide +kernel
theorem d_Mod_call_103 : decode b_Mod_call 103 = .ok (.if_icmp .ge 7, 3) := by decide +kernel
theorem d_Mod_call_106 : decode b_Mod_call 106 = .ok (.iload_n 3, 1) := by decide +kernel
theorem d_Mod_call_107 : decode b_Mod_call 107 = .ok (.goto 12, 3) := by decide +kernel
theorem d_Mod_call_110 : decode b_Mod_call 110 = .ok (.aload_n 0, 1) := by decide +kernel
theorem d_Mod_call_111 : decode b_Mod_call 111 = .ok (.getfield 50, 3) := by decide +kernel
theorem d_Mod_call_114 : decode b_Mod_call 114 = .ok (.aload_n 0, 1) := by decide +kernel
theorem d_Mod_call_115 : decode b_Mod_call 115 = .ok (.getfield 112, 3) := by decide +kernel
theorem d_Mod_call_118 : decode b_Mod_call 118 = .ok (.iaload, 1) := by decide +kernel
theorem d_Mod_call_119 : decode b_Mod_call 119 = .ok (.istore 7, 2) := by decide +kernel
theorem d_Mod_call_121 : decode b_Mod_call 121 = .ok (.aload_n 0, 1) := by decide +kernel
theorem d_Mod_call_122 : decode b_Mod_call 122 = .ok (.getfield 50, 3) := by decide +kernel
theorem d_Mod_call_125 : decode b_Mod_call 125 = .ok (.aload_n 0, 1) := by decide +kernel
theorem d_Mod_call_126 : decode b_Mod_call 126 = .ok (.getfield 112, 3) := by decide +kernel
theorem d_Mod_call_129 : decode b_Mod_call 129 = .ok (.dup2, 1) := by decide +kernel
theorem d_Mod_call_130 : decode b_Mod_call 130 = .ok (.iaload, 1) := by decide +kernel
theorem d_Mod_call_131 : decode b_Mod_call 131 = .ok (.iload 7, 2) := by decide +kernel
theorem d_Mod_call_133 : decode b_Mod_call 133 = .ok (.isub, 1) := by decide +kernel
theorem d_Mod_call_134 : decode b_Mod_call 134 = .ok (.iastore, 1) := by decide +kernel
theorem d_Mod_call_135 : decode b_Mod_call 135 = .ok (.iload_n 1, 1) := by decide +kernel
theorem d_Mod_call_136 : decode b_Mod_call 136 = .ok (.ifCond .eq 43, 3) := by decide +kernel
theorem d_Mod_call_139 : decode b_Mod_call 139 = .ok (.aload_n 0, 1) := by decide +kernel
theorem d_Mod_call_140 : decode b_Mod_call 140 = .ok (.iload 4, 2) := by decide +kernel
theorem d_Mod_call_142 : decode b_Mod_call 142 = .ok (.iload 4, 2) := by decide +kernel
theorem d_Mod_call_144 : decode b_Mod_call 144 = .ok (.iload_n 2, 1) := by decide +kernel
theorem d_Mod_call_145 : decode b_Mod_call 145 = .ok (.iload 5, 2) := by decide +kernel
theorem d_Mod_call_147 : decode b_Mod_call 147 = .ok (.iload 6, 2) := by decide +kernel
theorem d_Mod_call_149 : decode b_Mod_call 149 = .ok (.iload 5, 2) := by decide +kernel
theorem d_Mod_call_151 : decode b_Mod_call 151 = .ok (.ifCond .eq 11, 3) := by decide +kernel
theorem d_Mod_call_154 : decode b_Mod_call 154 = .ok (.iload 7, 2) := by decide +kernel
theorem d_Mod_call_156 : decode b_Mod_call 156 = .ok (.bipush 10, 2) := by decide +kernel
theorem d_Mod_call_158 : decode b_Mod_call 158 = .ok (.iadd, 1) := by decide +kernel
theorem d_Mod_call_159 : decode b_Mod_call 159 = .ok (.goto 5, 3) := by decide +kernel
theorem d_Mod_call_162 : decode b_Mod_call 162 = .ok (.iload 7, 2) := by decide +kernel
theorem d_Mod_call_164 : decode b_Mod_call 164 = .ok (.invokevirtual 181, 3) := by decide +kernel
theorem d_Mod_call_167 : decode b_Mod_call 167 = .ok (.aload_n 0, 1) := by decide +kernel
theorem d_Mod_call_168 : decode b_Mod_call 168 = .ok (.iload_n 2, 1) := by decide +kernel
theorem d_Mod_call_169 : decode b_Mod_call 169 = .ok (.iload 4, 2) := by decide +kernel
theorem d_Mod_call_171 : decode b_Mod_call 171 = .ok (.iload 5, 2) := by decide +kernel
theorem d_Mod_call_173 : decode b_Mod_call 173 = .ok (.invokevirtual 177, 3) := by decide +kernel
theorem d_Mod_call_176 : decode b_Mod_call 176 = .ok (.goto 32, 3) := by decide +kernel
theorem d_Mod_call_179 : decode b_Mod_call 179 = .ok (.aload_n 0, 1) := by decide +kernel
theorem d_Mod_call_180 : decode b_Mod_call 180 = .ok (.iload 4, 2) := by decide +kernel
theorem d_Mod_call_182 : decode b_Mod_call 182 = .ok (.iload_n 2, 1) := by decide +kernel
theorem d_Mod_call_183 : decode b_Mod_call 183 = .ok (.aload_n 0, 1) := by decide +kernel
theorem d_Mod_call_184 : decode b_Mod_call 184 = .ok (.getfield 41, 3) := by decide +kernel
theorem d_Mod_call_187 : decode b_Mod_call 187 = .ok (.aload_n 0, 1) := by decide +kernel
theorem d_Mod_call_188 : decode b_Mod_call 188 = .ok (.getfield 112, 3) := by decide +kernel
theorem d_Mod_call_191 : decode b_Mod_call 191 = .ok (.iaload, 1) := by decide +kernel
theorem d_Mod_call_192 : decode b_Mod_call 192 = .ok (.aload_n 0, 1) := by decide +kernel
theorem d_Mod_call_193 : decode b_Mod_call 193 = .ok (.getfield 44, 3) := by decide +kernel
theorem d_Mod_call_196 : decode b_Mod_call 196 = .ok (.aload_n 0, 1) := by decide +kernel
theorem d_Mod_call_197 : decode b_Mod_call 197 = .ok (.getfield 112, 3) := by decide +kernel
theorem d_Mod_call_200 : decode b_Mod_call 200 = .ok (.iaload, 1) := by decide +kernel
theorem d_Mod_call_201 : decode b_Mod_call 201 = .ok (.iload 6, 2) := by decide +kernel
theorem d_Mod_call_203 : decode b_Mod_call 203 = .ok (.iload 7, 2) := by decide +kernel
theorem d_Mod_call_205 : decode b_Mod_call 205 = .ok (.invokevirtual 181, 3) := by decide +kernel
theorem d_Mod_call_208 : decode b_Mod_call 208 = .ok (.return_, 1) := by decide +kernel
end
section
theorem d_Mod_create_0 : decode b_Mod_create 0 = .ok (.aload_n 0, 1) := by decide +kernel
theorem d_Mod_create_1 : decode b_Mod_create 1 = .ok (.getfield 32, 3) := by decide +kernel
theorem d_Mod_create_4 : decode b_Mod_create 4 = .ok (.aload_n 0, 1) := by decide +kernel
theorem d_Mod_create_5 : decode b_Mod_create 5 = .ok (.getfield 112, 3) := by decide +kernel
theorem d_Mod_create_8 : decode b_Mod_create 8 = .ok (.iaload, 1) := by decide +kernel
theorem d_Mod_create_9 : decode b_Mod_create 9 = .ok (.istore_n 1, 1) := by decide +kernel
theorem d_Mod_create_10 : decode b_Mod_create 10 = .ok (.aload_n 0, 1) := by decide +kernel
theorem d_Mod_create_11 : decode b_Mod_create 11 = .ok (.invokevirtual 160, 3) := by decide +kernel
theorem d_Mod_create_14 : decode b_Mod_create 14 = .ok (.istore_n 2, 1) := by decide +kernel
theorem d_Mod_create_15 : decode b_Mod_create 15 = .ok (.aload_n 0, 1) := by decide +kernel
theorem d_Mod_create_16 : decode b_Mod_create 16 = .ok (.invokevirtual 160, 3) := by decide +kernel
theorem d_Mod_create_19 : decode b_Mod_create 19 = .ok (.istore_n 3, 1) := by decide +kernel
theorem d_Mod_create_20 : decode b_Mod_create 20 = .ok (.aload_n 0, 1) := by decide +kernel
theorem d_Mod_create_21 : decode b_Mod_create 21 = .ok (.invokevirtual 160, 3) := by decide +kernel
theorem d_Mod_create_24 : decode b_Mod_create 24 = .ok (.istore 4, 2) := by decide +kernel
theorem d_Mod_create_26 : decode b_Mod_create 26 = .ok (.iconst 0, 1) := by decide +kernel
theorem d_Mod_create_27 : decode b_Mod_create 27 = .ok (.istore 5, 2) := by decide +kernel
theorem d_Mod_create_29 : decode b_Mod_create 29 = .ok (.iload 5, 2) := by decide +kernel
theorem d_Mod_create_31 : decode b_Mod_create 31 = .ok (.bipush 16, 2) := by decide +kernel
theorem d_Mod_create_33 : decode b_Mod_create 33 = .ok (.if_icmp .ge 18, 3) := by decide +kernel
theorem d_Mod_create_36 : decode b_Mod_create 36 = .ok (.aload_n 0, 1) := by decide +kernel
theorem d_Mod_create_37 : decode b_Mod_create 37 = .ok (.iload 5, 2) := by decide +kernel
theorem d_Mod_create_39 : decode b_Mod_create 39 = .ok (.invokevirtual 108, 3) := by decide +kernel
theorem d_Mod_create_42 : decode b_Mod_create 42 = .ok (.ifCond .ne 9, 3) := by decide +kernel
theorem d_Mod_create_45 : decode b_Mod_create 45 = .ok (.iinc 5 1, 3) := by decide +kernel
theorem d_Mod_create_48 : decode b_Mod_create 48 = .ok (.goto (-19), 3) := by decide +kernel
theorem d_Mod_create_51 : decode b_Mod_create 51 = .ok (.aload_n 0, 1) := by decide +kernel
theorem d_Mod_create_52 : decode b_Mod_create 52 = .ok (.getfield 7, 3) := by decide +kernel
theorem d_Mod_create_55 : decode b_Mod_create 55 = .ok (.bipush 36, 2) := by decide +kernel
theorem d_Mod_create_57 : decode b_Mod_create 57 = .ok (.iload_n 1, 1) := by decide +kernel
theorem d_Mod_create_58 : decode b_Mod_create 58 = .ok (.imul, 1) := by decide +kernel
theorem d_Mod_create_59 : decode b_Mod_create 59 = .ok (.iaload, 1) := by decide +kernel
theorem d_Mod_create_60 : decode b_Mod_create 60 = .ok (.iload_n 2, 1) := by decide +kernel
theorem d_Mod_create_61 : decode b_Mod_create 61 = .ok (.if_icmp .lt 10, 3) := by decide +kernel
theorem d_Mod_create_64 : decode b_Mod_create 64 = .ok (.iload 5, 2) := by decide +kernel
theorem d_Mod_create_66 : decode b_Mod_create 66 = .ok (.bipush 16, 2) := by decide +kernel
theorem d_Mod_create_68 : decode b_Mod_create 68 = .ok (.if_icmp .ne 9, 3) := by decide +kernel
theorem d_Mod_create_71 : decode b_Mod_create 71 = .ok (.aload_n 0, 1) := by decide +kernel
theorem d_Mod_create_72 : decode b_Mod_create 72 = .ok (.iconst (-1), 1) := by decide +kernel
theorem d_Mod_create_73 : decode b_Mod_create 73 = .ok (.invokevirtual 130, 3) := by decide +kernel
theorem d_Mod_create_76 : decode b_Mod_create 76 = .ok (.return_, 1) := by decide +kernel
theorem d_Mod_create_77 : decode b_Mod_create 77 = .ok (.aload_n 0, 1) := by decide +kernel
theorem d_Mod_create_78 : decode b_Mod_create 78 = .ok (.getfield 7, 3) := by decide +kernel
theorem d_Mod_create_81 : decode b_Mod_create 81 = .ok (.bipush 36, 2) := by decide +kernel
theorem d_Mod_create_83 : decode b_Mod_create 83 = .ok (.iload_n 1, 1) := by decide +kernel
theorem d_Mod_create_84 : decode b_Mod_create 84 = .ok (.imul, 1) := by decide +kernel
theorem d_Mod_create_85 : decode b_Mod_create 85 = .ok (.iconst 1, 1) := by decide +kernel
theorem d_Mod_create_86 : decode b_Mod_create 86 = .ok (.iadd, 1) := by decide +kernel
theorem d_Mod_create_87 : decode b_Mod_create 87 = .ok (.dup2, 1) := by decide +kernel
theorem d_Mod_create_88 : decode b_Mod_create 88 = .ok (.iaload, 1) := by decide +kernel
theorem d_Mod_create_89 : decode b_Mod_create 89 = .ok (.iconst 1, 1) := by decide +kernel
theorem d_Mod_create_90 : decode b_Mod_create 90 = .ok (.iadd, 1) := by decide +kernel
theorem d_Mod_create_91 : decode b_Mod_create 91 = .ok (.iastore, 1) := by decide +kernel
theorem d_Mod_create_92 : decode b_Mod_create 92 = .ok (.iconst 0, 1) := by decide +kernel
theorem d_Mod_create_93 : decode b_Mod_create 93 = .ok (.istore 6, 2) := by decide +kernel
theorem d_Mod_create_95 : decode b_Mod_create 95 = .ok (.iload 6, 2) := by decide +kernel
theorem d_Mod_create_97 : decode b_Mod_create 97 = .ok (.iload 4, 2) := by decide +kernel
theorem d_Mod_create_99 : decode b_Mod_create 99 = .ok (.if_icmp .ge 48, 3) := by decide +kernel
theorem d_Mod_create_102 : decode b_Mod_create 102 = .ok (.aload_n 0, 1) := by decide +kernel
theorem d_Mod_create_103 : decode b_Mod_create 103 = .ok (.getfield 7, 3) := by decide +kernel
theorem d_Mod_create_106 : decode b_Mod_create 106 = .ok (.bipush 36, 2) := by decide +kernel
theorem d_Mod_create_108 : decode b_Mod_create 108 = .ok (.iload 5, 2) := by decide +kernel
theorem d_Mod_create_110 : decode b_Mod_create 110 = .ok (.imul, 1) := by decide +kernel
theorem d_Mod_create_111 : decode b_Mod_create 111 = .ok (.iconst 3, 1) := by decide +kernel
theorem d_Mod_create_112 : decode b_Mod_create 112 = .ok (.iadd, 1) := by decide +kernel
theorem d_Mod_create_113 : decode b_Mod_create 113 = .ok (.iload 6, 2) := by decide +kernel
theorem d_Mod_create_115 : decode b_Mod_create 115 = .ok (.iadd, 1) := by decide +kernel
theorem d_Mod_create_116 : decode b_Mod_create 116 = .ok (.aload_n 0, 1) := by decide +kernel
theorem d_Mod_create_117 : decode b_Mod_create 117 = .ok (.getfield 7, 3) := by decide +kernel
theorem d_Mod_create_120 : decode b_Mod_create 120 = .ok (.bipush 36, 2) := by decide +kernel
theorem d_Mod_create_122 : decode b_Mod_create 122 = .ok (.aload_n 0, 1) := by decide +kernel
theorem d_Mod_create_123 : decode b_Mod_create 123 = .ok (.getfield 35, 3) := by decide +kernel
theorem d_Mod_create_126 : decode b_Mod_create 126 = .ok (.aload_n 0, 1) := by decide +kernel
theorem d_Mod_create_127 : decode b_Mod_create 127 = .ok (.getfield 112, 3) := by decide +kernel
theorem d_Mod_create_130 : decode b_Mod_create 130 = .ok (.iaload, 1) := by decide +kernel
theorem d_Mod_create_131 : decode b_Mod_create 131 = .ok (.imul, 1) := by decide +kernel
theorem d_Mod_create_132 : decode b_Mod_create 132 = .ok (.iconst 3, 1) := by decide +kernel
theorem d_Mod_create_133 : decode b_Mod_create 133 = .ok (.iadd, 1) := by decide +kernel
theorem d_Mod_create_134 : decode b_Mod_create 134 = .ok (.iload_n 3, 1) := by decide +kernel
theorem d_Mod_create_135 : decode b_Mod_create 135 = .ok (.iadd, 1) := by decide +kernel
theorem d_Mod_create_136 : decode b_Mod_create 136 = .ok (.iload 6, 2) := by decide +kernel
theorem d_Mod_create_138 : decode b_Mod_create 138 = .ok (.iadd, 1) := by decide +kernel
theorem d_Mod_create_139 : decode b_Mod_create 139 = .ok (.iaload, 1) := by decide +kernel
theorem d_Mod_create_140 : decode b_Mod_create 140 = .ok (.iastore, 1) := by decide +kernel
theorem d_Mod_create_141 : decode b_Mod_create 141 = .ok (.iinc 6 1, 3) := by decide +kernel
theorem d_Mod_create_144 : decode b_Mod_create 144 = .ok (.goto (-49), 3) := by decide +kernel
theorem d_Mod_create_147 : decode b_Mod_create 147 = .ok (.aload_n 0, 1) := by decide +kernel
theorem d_Mod_create_148 : decode b_Mod_create 148 = .ok (.getfield 7, 3) := by decide +kernel
theorem d_Mod_create_151 : decode b_Mod_create 151 = .ok (.bipush 36, 2) := by decide +kernel
theorem d_Mod_create_153 : decode b_Mod_create 153 = .ok (.iload 5, 2) := by decide +kernel
theorem d_Mod_create_155 : decode b_Mod_create 155 = .ok (.imul, 1) := by decide +kernel
theorem d_Mod_create_156 : decode b_Mod_create 156 = .ok (.iconst 2, 1) := by decide +kernel
theorem d_Mod_create_157 : decode b_Mod_create 157 = .ok (.iadd, 1) := by decide +kernel
theorem d_Mod_create_158 : decode b_Mod_create 158 = .ok (.iload 4, 2) := by decide +kernel
theorem d_Mod_create_160 : decode b_Mod_create 160 = .ok (.iastore, 1) := by decide +kernel
theorem d_Mod_create_161 : decode b_Mod_create 161 = .ok (.aload_n 0, 1) := by decide +kernel
theorem d_Mod_create_162 : decode b_Mod_create 162 = .ok (.getfield 7, 3) := by decide +kernel
theorem d_Mod_create_165 : decode b_Mod_create 165 = .ok (.bipush 36, 2) := by decide +kernel
theorem d_Mod_create_167 : decode b_Mod_create 167 = .ok (.iload 5, 2) := by decide +kernel
theorem d_Mod_create_169 : decode b_Mod_create 169 = .ok (.imul, 1) := by decide +kernel
theorem d_Mod_create_170 : decode b_Mod_create 170 = .ok (.iconst 1, 1) := by decide +kernel
theorem d_Mod_create_171 : decode b_Mod_create 171 = .ok (.iadd, 1) := by decide +kernel
theorem d_Mod_create_172 : decode b_Mod_create 172 = .ok (.iconst 1, 1) := by decide +kernel
theorem d_Mod_create_173 : decode b_Mod_create 173 = .ok (.iastore, 1) := by decide +kernel
theorem d_Mod_create_174 : decode b_Mod_create 174 = .ok (.aload_n 0, 1) := by decide +kernel
theorem d_Mod_create_175 : decode b_Mod_create 175 = .ok (.iload_n 1, 1) := by decide +kernel
theorem d_Mod_create_176 : decode b_Mod_create 176 = .ok (.iload 5, 2) := by decide +kernel
theorem d_Mod_create_178 : decode b_Mod_create 178 = .ok (.iload_n 2, 1) := by decide +kernel
theorem d_Mod_create_179 : decode b_Mod_create 179 = .ok (.invokevirtual 177, 3) := by decide +kernel
theorem d_Mod_create_182 : decode b_Mod_create 182 = .ok (.aload_n 0, 1) := by decide +kernel
theorem d_Mod_create_183 : decode b_Mod_create 183 = .ok (.iload 5, 2) := by decide +kernel
theorem d_Mod_create_185 : decode b_Mod_create 185 = .ok (.invokevirtual 130, 3) := by decide +kernel
theorem d_Mod_create_188 : decode b_Mod_create 188 = .ok (.return_, 1) := by decide +kernel
theorem d_Mod_terms_0 : decode b_Mod_terms 0 = .ok (.aload_n 0, 1) := by decide +kernel
theorem d_Mod_terms_1 : decode b_Mod_terms 1 = .ok (.iload_n 1, 1) := by decide +kernel
theorem d_Mod_terms_2 : decode b_Mod_terms 2 = .ok (.putfield 25, 3) := by decide +kernel
theorem d_Mod_terms_5 : decode b_Mod_terms 5 = .ok (.aload_n 0, 1) := by decide +kernel
theorem d_Mod_terms_6 : decode b_Mod_terms 6 = .ok (.iload_n 2, 1) := by decide +kernel
theorem d_Mod_terms_7 : decode b_Mod_terms 7 = .ok (.putfield 29, 3) := by decide +kernel
theorem d_Mod_terms_10 : decode b_Mod_terms 10 = .ok (.aload_n 0, 1) := by decide +kernel
theorem d_Mod_terms_11 : decode b_Mod_terms 11 = .ok (.iload_n 3, 1) := by decide +kernel
theorem d_Mod_terms_12 : decode b_Mod_terms 12 = .ok (.putfield 185, 3) := by decide +kernel
theorem d_Mod_terms_15 : decode b_Mod_terms 15 = .ok (.return_, 1) := by decide +kernel
theorem d_Mod_send_0 : decode b_Mod_send 0 = .ok (.aload_n 0, 1) := by decide +kernel
theorem d_Mod_send_1 : decode b_Mod_send 1 = .ok (.iload_n 1, 1) := by decide +kernel
theorem d_Mod_send_2 : decode b_Mod_send 2 = .ok (.iload_n 2, 1) := by decide +kernel
theorem d_Mod_send_3 : decode b_Mod_send 3 = .ok (.iload_n 3, 1) := by decide +kernel
theorem d_Mod_send_4 : decode b_Mod_send 4 = .ok (.iload 4, 2) := by decide +kernel
theorem d_Mod_send_6 : decode b_Mod_send 6 = .ok (.sipush 200, 3) := by decide +kernel
theorem d_Mod_send_9 : decode b_Mod_send 9 = .ok (.iconst 1, 1) := by decide +kernel
theorem d_Mod_send_10 : decode b_Mod_send 10 = .ok (.iconst 0, 1) := by decide +kernel
theorem d_Mod_send_11 : decode b_Mod_send 11 = .ok (.invokevirtual 188, 3) := by decide +kernel
theorem d_Mod_send_14 : decode b_Mod_send 14 = .ok (.ireturn, 1) := by decide +kernel
theorem d_Mod_pay_0 : decode b_Mod_pay 0 = .ok (.aload_n 0, 1) := by decide +kernel
theorem d_Mod_pay_1 : decode b_Mod_pay 1 = .ok (.getfield 25, 3) := by decide +kernel
theorem d_Mod_pay_4 : decode b_Mod_pay 4 = .ok (.istore 5, 2) := by decide +kernel
theorem d_Mod_pay_6 : decode b_Mod_pay 6 = .ok (.aload_n 0, 1) := by decide +kernel
theorem d_Mod_pay_7 : decode b_Mod_pay 7 = .ok (.getfield 29, 3) := by decide +kernel
theorem d_Mod_pay_10 : decode b_Mod_pay 10 = .ok (.istore 6, 2) := by decide +kernel
theorem d_Mod_pay_12 : decode b_Mod_pay 12 = .ok (.aload_n 0, 1) := by decide +kernel
theorem d_Mod_pay_13 : decode b_Mod_pay 13 = .ok (.getfield 185, 3) := by decide +kernel
theorem d_Mod_pay_16 : decode b_Mod_pay 16 = .ok (.istore 7, 2) := by decide +kernel
theorem d_Mod_pay_18 : decode b_Mod_pay 18 = .ok (.aload_n 0, 1) := by decide +kernel
theorem d_Mod_pay_19 : decode b_Mod_pay 19 = .ok (.sipush 200, 3) := by decide +kernel
theorem d_Mod_pay_22 : decode b_Mod_pay 22 = .ok (.iconst 1, 1) := by decide +kernel
theorem d_Mod_pay_23 : decode b_Mod_pay 23 = .ok (.iconst 0, 1) := by decide +kernel
theorem d_Mod_pay_24 : decode b_Mod_pay 24 = .ok (.invokevirtual 192, 3) := by decide +kernel
theorem d_Mod_pay_27 : decode b_Mod_pay 27 = .ok (.aload_n 0, 1) := by decide +kernel
theorem d_Mod_pay_28 : decode b_Mod_pay 28 = .ok (.iload_n 1, 1) := by decide +kernel
theorem d_Mod_pay_29 : decode b_Mod_pay 29 = .ok (.iload_n 2, 1) := by decide +kernel
theorem d_Mod_pay_30 : decode b_Mod_pay 30 = .ok (.iload_n 3, 1) := by decide +kernel
theorem d_Mod_pay_31 : decode b_Mod_pay 31 = .ok (.iload 4, 2) := by decide +kernel
theorem d_Mod_pay_33 : decode b_Mod_pay 33 = .ok (.iload 5, 2) := by decide +kernel
theorem d_Mod_pay_35 : decode b_Mod_pay 35 = .ok (.iload 6, 2) := by decide +kernel
theorem d_Mod_pay_37 : decode b_Mod_pay 37 = .ok (.iload 7, 2) := by decide +kernel
theorem d_Mod_pay_39 : decode b_Mod_pay 39 = .ok (.invokevirtual 188, 3) := by decide +kernel
theorem d_Mod_pay_42 : decode b_Mod_pay 42 = .ok (.ireturn, 1) := by decide +kernel
theorem d_Mod_transact_0 : decode b_Mod_transact 0 = .ok (.aload_n 0, 1) := by decide +kernel
theorem d_Mod_transact_1 : decode b_Mod_transact 1 = .ok (.getfield 195, 3) := by decide +kernel
theorem d_Mod_transact_4 : decode b_Mod_transact 4 = .ok (.ifCond .ne 5, 3) := by decide +kernel
theorem d_Mod_transact_7 : decode b_Mod_transact 7 = .ok (.iconst (-1), 1) := by decide +kernel
theorem d_Mod_transact_8 : decode b_Mod_transact 8 = .ok (.ireturn, 1) := by decide +kernel
theorem d_Mod_transact_9 : decode b_Mod_transact 9 = .ok (.iload_n 1, 1) := by decide +kernel
theorem d_Mod_transact_10 : decode b_Mod_transact 10 = .ok (.bipush 16, 2) := by decide +kernel
theorem d_Mod_transact_12 : decode b_Mod_transact 12 = .ok (.invokestatic 81, 3) := by decide +kernel
theorem d_Mod_transact_15 : decode b_Mod_transact 15 = .ok (.ifCond .eq 16, 3) := by decide +kernel
theorem d_Mod_transact_18 : decode b_Mod_transact 18 = .ok (.iload_n 2, 1) := by decide +kernel
theorem d_Mod_transact_19 : decode b_Mod_transact 19 = .ok (.bipush 16, 2) := by decide +kernel
theorem d_Mod_transact_21 : decode b_Mod_transact 21 = .ok (.invokestatic 81, 3) := by decide +kernel
theorem d_Mod_transact_24 : decode b_Mod_transact 24 = .ok (.ifCond .eq 7, 3) := by decide +kernel
theorem d_Mod_transact_27 : decode b_Mod_transact 27 = .ok (.iload_n 3, 1) := by decide +kernel
theorem d_Mod_transact_28 : decode b_Mod_transact 28 = .ok (.ifCond .ge 6, 3) := by decide +kernel
theorem d_Mod_transact_31 : decode b_Mod_transact 31 = .ok (.bipush (-2), 2) := by decide +kernel
theorem d_Mod_transact_33 : decode b_Mod_transact 33 = .ok (.ireturn, 1) := by decide +kernel
theorem d_Mod_transact_34 : decode b_Mod_transact 34 = .ok (.iload 7, 2) := by decide +kernel
theorem d_Mod_transact_36 : decode b_Mod_transact 36 = .ok (.ifCond .eq 6, 3) := by decide +kernel
theorem d_Mod_transact_39 : decode b_Mod_transact 39 = .ok (.bipush (-3), 2) := by decide +kernel
theorem d_Mod_transact_41 : decode b_Mod_transact 41 = .ok (.ireturn, 1) := by decide +kernel
theorem d_Mod_transact_42 : decode b_Mod_transact 42 = .ok (.iload 5, 2) := by decide +kernel
theorem d_Mod_transact_44 : decode b_Mod_transact 44 = .ok (.bipush 20, 2) := by decide +kernel
theorem d_Mod_transact_46 : decode b_Mod_transact 46 = .ok (.if_icmp .lt 21, 3) := by decide +kernel
theorem d_Mod_transact_49 : decode b_Mod_transact 49 = .ok (.iload 5, 2) := by decide +kernel
theorem d_Mod_transact_51 : decode b_Mod_transact 51 = .ok (.sipush 3000, 3) := by decide +kernel
theorem d_Mod_transact_54 : decode b_Mod_transact 54 = .ok (.if_icmp .gt 13, 3) := by decide +kernel
theorem d_Mod_transact_57 : decode b_Mod_transact 57 = .ok (.iload 6, 2) := by decide +kernel
theorem d_Mod_transact_59 : decode b_Mod_transact 59 = .ok (.bipush 101, 2) := by decide +kernel
theorem d_Mod_transact_61 : decode b_Mod_transact 61 = .ok (.invokestatic 81, 3) := by decide +kernel
theorem d_Mod_transact_64 : decode b_Mod_transact 64 = .ok (.ifCond .ne 6, 3) := by decide +kernel
theorem d_Mod_transact_67 : decode b_Mod_transact 67 = .ok (.bipush (-4), 2) := by decide +kernel
theorem d_Mod_transact_69 : decode b_Mod_transact 69 = .ok (.ireturn, 1) := by decide +kernel
theorem d_Mod_transact_70 : decode b_Mod_transact 70 = .ok (.iload 5, 2) := by decide +kernel
theorem d_Mod_transact_72 : decode b_Mod_transact 72 = .ok (.sipush 3000, 3) := by decide +kernel
theorem d_Mod_transact_75 : decode b_Mod_transact 75 = .ok (.aload_n 0, 1) := by decide +kernel
theorem d_Mod_transact_76 : decode b_Mod_transact 76 = .ok (.getfield 199, 3) := by decide +kernel
theorem d_Mod_transact_79 : decode b_Mod_transact 79 = .ok (.isub, 1) := by decide +kernel
theorem d_Mod_transact_80 : decode b_Mod_transact 80 = .ok (.if_icmp .le 6, 3) := by decide +kernel
theorem d_Mod_transact_83 : decode b_Mod_transact 83 = .ok (.bipush (-5), 2) := by decide +kernel
theorem d_Mod_transact_85 : decode b_Mod_transact 85 = .ok (.ireturn, 1) := by decide +kernel
theorem d_Mod_transact_86 : decode b_Mod_transact 86 = .ok (.aload_n 0, 1) := by decide +kernel
theorem d_Mod_transact_87 : decode b_Mod_transact 87 = .ok (.getfield 7, 3) := by decide +kernel
theorem d_Mod_transact_90 : decode b_Mod_transact 90 = .ok (.bipush 36, 2) := by decide +kernel
theorem d_Mod_transact_92 : decode b_Mod_transact 92 = .ok (.iload_n 1, 1) := by decide +kernel
theorem d_Mod_transact_93 : decode b_Mod_transact 93 = .ok (.imul, 1) := by decide +kernel
theorem d_Mod_transact_94 : decode b_Mod_transact 94 = .ok (.iaload, 1) := by decide +kernel
theorem d_Mod_transact_95 : decode b_Mod_transact 95 = .ok (.i2l, 1) := by decide +kernel
theorem d_Mod_transact_96 : decode b_Mod_transact 96 = .ok (.iload 5, 2) := by decide +kernel
theorem d_Mod_transact_98 : decode b_Mod_transact 98 = .ok (.i2l, 1) := by decide +kernel
theorem d_Mod_transact_99 : decode b_Mod_transact 99 = .ok (.iload 6, 2) := by decide +kernel
theorem d_Mod_transact_101 : decode b_Mod_transact 101 = .ok (.i2l, 1) := by decide +kernel
theorem d_Mod_transact_102 : decode b_Mod_transact 102 = .ok (.lmul, 1) := by decide +kernel
theorem d_Mod_transact_103 : decode b_Mod_transact 103 = .ok (.iload_n 3, 1) := by decide +kernel
theorem d_Mod_transact_104 : decode b_Mod_transact 104 = .ok (.i2l, 1) := by decide +kernel
theorem d_Mod_transact_105 : decode b_Mod_transact 105 = .ok (.ladd, 1) := by decide +kernel
theorem d_Mod_transact_106 : decode b_Mod_transact 106 = .ok (.lcmp, 1) := by decide +kernel
theorem d_Mod_transact_107 : decode b_Mod_transact 107 = .ok (.ifCond .ge 6, 3) := by decide +kernel
theorem d_Mod_transact_110 : decode b_Mod_transact 110 = .ok (.bipush (-6), 2) := by decide +kernel
theorem d_Mod_transact_112 : decode b_Mod_transact 112 = .ok (.ireturn, 1) := by decide +kernel
theorem d_Mod_transact_113 : decode b_Mod_transact 113 = .ok (.aload_n 0, 1) := by decide +kernel
theorem d_Mod_transact_114 : decode b_Mod_transact 114 = .ok (.iconst 0, 1) := by decide +kernel
theorem d_Mod_transact_115 : decode b_Mod_transact 115 = .ok (.putfield 115, 3) := by decide +kernel
theorem d_Mod_transact_118 : decode b_Mod_transact 118 = .ok (.iconst 0, 1) := by decide +kernel
theorem d_Mod_transact_119 : decode b_Mod_transact 119 = .ok (.istore 8, 2) := by decide +kernel
theorem d_Mod_transact_121 : decode b_Mod_transact 121 = .ok (.iload 8, 2) := by decide +kernel
theorem d_Mod_transact_123 : decode b_Mod_transact 123 = .ok (.bipush 16, 2) := by decide +kernel
theorem d_Mod_transact_125 : decode b_Mod_transact 125 = .ok (.if_icmp .ge 23, 3) := by decide +kernel
theorem d_Mod_transact_128 : decode b_Mod_transact 128 = .ok (.aload_n 0, 1) := by decide +kernel
theorem d_Mod_transact_129 : decode b_Mod_transact 129 = .ok (.getfield 7, 3) := by decide +kernel
theorem d_Mod_transact_132 : decode b_Mod_transact 132 = .ok (.bipush 36, 2) := by decide +kernel
theorem d_Mod_transact_134 : decode b_Mod_transact 134 = .ok (.iload 8, 2) := by decide +kernel
theorem d_Mod_transact_136 : decode b_Mod_transact 136 = .ok (.imul, 1) := by decide +kernel
theorem d_Mod_transact_137 : decode b_Mod_transact 137 = .ok (.bipush 35, 2) := by decide +kernel
theorem d_Mod_transact_139 : decode b_Mod_transact 139 = .ok (.iadd, 1) := by decide +kernel
theorem d_Mod_transact_140 : decode b_Mod_transact 140 = .ok (.iconst 0, 1) := by decide +kernel
theorem d_Mod_transact_141 : decode b_Mod_transact 141 = .ok (.iastore, 1) := by decide +kernel
theorem d_Mod_transact_142 : decode b_Mod_transact 142 = .ok (.iinc 8 1, 3) := by decide +kernel
theorem d_Mod_transact_145 : decode b_Mod_transact 145 = .ok (.goto (-24), 3) := by decide +kernel
theorem d_Mod_transact_148 : decode b_Mod_transact 148 = .ok (.aload_n 0, 1) := by decide +kernel
theorem d_Mod_transact_149 : decode b_Mod_transact 149 = .ok (.getfield 118, 3) := by decide +kernel
theorem d_Mod_transact_152 : decode b_Mod_transact 152 = .ok (.istore 8, 2) := by decide +kernel
theorem d_Mod_transact_154 : decode b_Mod_transact 154 = .ok (.aload_n 0, 1) := by decide +kernel
theorem d_Mod_transact_155 : decode b_Mod_transact 155 = .ok (.getfield 7, 3) := by decide +kernel
theorem d_Mod_transact_158 : decode b_Mod_transact 158 = .ok (.bipush 36, 2) := by decide +kernel
theorem d_Mod_transact_160 : decode b_Mod_transact 160 = .ok (.iload_n 1, 1) := by decide +kernel
theorem d_Mod_transact_161 : decode b_Mod_transact 161 = .ok (.imul, 1) := by decide +kernel
theorem d_Mod_transact_162 : decode b_Mod_transact 162 = .ok (.dup2, 1) := by decide +kernel
theorem d_Mod_transact_163 : decode b_Mod_transact 163 = .ok (.iaload, 1) := by decide +kernel
theorem d_Mod_transact_164 : decode b_Mod_transact 164 = .ok (.iload 5, 2) := by decide +kernel
theorem d_Mod_transact_166 : decode b_Mod_transact 166 = .ok (.iload 6, 2) := by decide +kernel
theorem d_Mod_transact_168 : decode b_Mod_transact 168 = .ok (.imul, 1) := by decide +kernel
theorem d_Mod_transact_169 : decode b_Mod_transact 169 = .ok (.isub, 1) := by decide +kernel
theorem d_Mod_transact_170 : decode b_Mod_transact 170 = .ok (.iastore, 1) := by decide +kernel
theorem d_Mod_transact_171 : decode b_Mod_transact 171 = .ok (.aload_n 0, 1) := by decide +kernel
theorem d_Mod_transact_172 : decode b_Mod_transact 172 = .ok (.getfield 7, 3) := by decide +kernel
theorem d_Mod_transact_175 : decode b_Mod_transact 175 = .ok (.bipush 36, 2) := by decide +kernel
theorem d_Mod_transact_177 : decode b_Mod_transact 177 = .ok (.iload_n 1, 1) := by decide +kernel
theorem d_Mod_transact_178 : decode b_Mod_transact 178 = .ok (.imul, 1) := by decide +kernel
theorem d_Mod_transact_179 : decode b_Mod_transact 179 = .ok (.iconst 1, 1) := by decide +kernel
theorem d_Mod_transact_180 : decode b_Mod_transact 180 = .ok (.iadd, 1) := by decide +kernel
theorem d_Mod_transact_181 : decode b_Mod_transact 181 = .ok (.dup2, 1) := by decide +kernel
theorem d_Mod_transact_182 : decode b_Mod_transact 182 = .ok (.iaload, 1) := by decide +kernel
theorem d_Mod_transact_183 : decode b_Mod_transact 183 = .ok (.iconst 1, 1) := by decide +kernel
theorem d_Mod_transact_184 : decode b_Mod_transact 184 = .ok (.iadd, 1) := by decide +kernel
theorem d_Mod_transact_185 : decode b_Mod_transact 185 = .ok (.iastore, 1) := by decide +kernel
theorem d_Mod_transact_186 : decode b_Mod_transact 186 = .ok (.aload_n 0, 1) := by decide +kernel
theorem d_Mod_transact_187 : decode b_Mod_transact 187 = .ok (.iconst (-1), 1) := by decide +kernel
theorem d_Mod_transact_188 : decode b_Mod_transact 188 = .ok (.putfield 112, 3) := by decide +kernel
theorem d_Mod_transact_191 : decode b_Mod_transact 191 = .ok (.aload_n 0, 1) := by decide +kernel
theorem d_Mod_transact_192 : decode b_Mod_transact 192 = .ok (.iload_n 2, 1) := by decide +kernel
theorem d_Mod_transact_193 : decode b_Mod_transact 193 = .ok (.iload_n 2, 1) := by decide +kernel
theorem d_Mod_transact_194 : decode b_Mod_transact 194 = .ok (.iload_n 1, 1) := by decide +kernel
theorem d_Mod_transact_195 : decode b_Mod_transact 195 = .ok (.iload_n 3, 1) := by decide +kernel
theorem d_Mod_transact_196 : decode b_Mod_transact 196 = .ok (.iload 4, 2) := by decide +kernel
theorem d_Mod_transact_198 : decode b_Mod_transact 198 = .ok (.iload 5, 2) := by decide +kernel
theorem d_Mod_transact_200 : decode b_Mod_transact 200 = .ok (.bipush 20, 2) := by decide +kernel
theorem d_Mod_transact_202 : decode b_Mod_transact 202 = .ok (.isub, 1) := by decide +kernel
theorem d_Mod_transact_203 : decode b_Mod_transact 203 = .ok (.invokevirtual 181, 3) := by decide +kernel
theorem d_Mod_transact_206 : decode b_Mod_transact 206 = .ok (.aload_n 0, 1) := by decide +kernel
theorem d_Mod_transact_207 : decode b_Mod_transact 207 = .ok (.iload_n 1, 1) := by decide +kernel
theorem d_Mod_transact_208 : decode b_Mod_transact 208 = .ok (.iload_n 2, 1) := by decide +kernel
theorem d_Mod_transact_209 : decode b_Mod_transact 209 = .ok (.iload_n 3, 1) := by decide +kernel
theorem d_Mod_transact_210 : decode b_Mod_transact 210 = .ok (.invokevirtual 177, 3) := by decide +kernel
theorem d_Mod_transact_213 : decode b_Mod_transact 213 = .ok (.iconst 0, 1) := by decide +kernel
theorem d_Mod_transact_214 : decode b_Mod_transact 214 = .ok (.istore 9, 2) := by decide +kernel
theorem d_Mod_transact_216 : decode b_Mod_transact 216 = .ok (.iload 9, 2) := by decide +kernel
theorem d_Mod_transact_218 : decode b_Mod_transact 218 = .ok (.ldc 202, 2) := by decide +kernel
theorem d_Mod_transact_220 : decode b_Mod_transact 220 = .ok (.if_icmp .ge 20, 3) := by decide +kernel
theorem d_Mod_transact_223 : decode b_Mod_transact 223 = .ok (.aload_n 0, 1) := by decide +kernel
theorem d_Mod_transact_224 : decode b_Mod_transact 224 = .ok (.getfield 112, 3) := by decide +kernel
theorem d_Mod_transact_227 : decode b_Mod_transact 227 = .ok (.ifCond .lt 13, 3) := by decide +kernel
theorem d_Mod_transact_230 : decode b_Mod_transact 230 = .ok (.aload_n 0, 1) := by decide +kernel
theorem d_Mod_transact_231 : decode b_Mod_transact 231 = .ok (.invokevirtual 203, 3) := by decide +kernel
theorem d_Mod_transact_234 : decode b_Mod_transact 234 = .ok (.iinc 9 1, 3) := by decide +kernel
theorem d_Mod_transact_237 : decode b_Mod_transact 237 = .ok (.goto (-21), 3) := by decide +kernel
theorem d_Mod_transact_240 : decode b_Mod_transact 240 = .ok (.iload 5, 2) := by decide +kernel
theorem d_Mod_transact_242 : decode b_Mod_transact 242 = .ok (.aload_n 0, 1) := by decide +kernel
theorem d_Mod_transact_243 : decode b_Mod_transact 243 = .ok (.getfield 121, 3) := by decide +kernel
theorem d_Mod_transact_246 : decode b_Mod_transact 246 = .ok (.isub, 1) := by decide +kernel
theorem d_Mod_transact_247 : decode b_Mod_transact 247 = .ok (.istore 9, 2) := by decide +kernel
theorem d_Mod_transact_249 : decode b_Mod_transact 249 = .ok (.iload 9, 2) := by decide +kernel
theorem d_Mod_transact_251 : decode b_Mod_transact 251 = .ok (.iload 9, 2) := by decide +kernel
theorem d_Mod_transact_253 : decode b_Mod_transact 253 = .ok (.iconst 2, 1) := by decide +kernel
theorem d_Mod_transact_254 : decode b_Mod_transact 254 = .ok (.idiv, 1) := by decide +kernel
theorem d_Mod_transact_255 : decode b_Mod_transact 255 = .ok (.aload_n 0, 1) := by decide +kernel
theorem d_Mod_transact_256 : decode b_Mod_transact 256 = .ok (.getfield 115, 3) := by decide +kernel
theorem d_Mod_transact_259 : decode b_Mod_transact 259 = .ok (.if_icmp .ge 10, 3) := by decide +kernel
theorem d_Mod_transact_262 : decode b_Mod_transact 262 = .ok (.iload 9, 2) := by decide +kernel
theorem d_Mod_transact_264 : decode b_Mod_transact 264 = .ok (.iconst 2, 1) := by decide +kernel
theorem d_Mod_transact_265 : decode b_Mod_transact 265 = .ok (.idiv, 1) := by decide +kernel
theorem d_Mod_transact_266 : decode b_Mod_transact 266 = .ok (.goto 7, 3) := by decide +kernel
theorem d_Mod_transact_269 : decode b_Mod_transact 269 = .ok (.aload_n 0, 1) := by decide +kernel
theorem d_Mod_transact_270 : decode b_Mod_transact 270 = .ok (.getfield 115, 3) := by decide +kernel
theorem d_Mod_transact_273 : decode b_Mod_transact 273 = .ok (.isub, 1) := by decide +kernel
theorem d_Mod_transact_274 : decode b_Mod_transact 274 = .ok (.istore 9, 2) := by decide +kernel
theorem d_Mod_transact_276 : decode b_Mod_transact 276 = .ok (.aload_n 0, 1) := by decide +kernel
theorem d_Mod_transact_277 : decode b_Mod_transact 277 = .ok (.getfield 7, 3) := by decide +kernel
theorem d_Mod_transact_280 : decode b_Mod_transact 280 = .ok (.bipush 36, 2) := by decide +kernel
theorem d_Mod_transact_282 : decode b_Mod_transact 282 = .ok (.iload_n 1, 1) := by decide +kernel
theorem d_Mod_transact_283 : decode b_Mod_transact 283 = .ok (.imul, 1) := by decide +kernel
theorem d_Mod_transact_284 : decode b_Mod_transact 284 = .ok (.dup2, 1) := by decide +kernel
theorem d_Mod_transact_285 : decode b_Mod_transact 285 = .ok (.iaload, 1) := by decide +kernel
theorem d_Mod_transact_286 : decode b_Mod_transact 286 = .ok (.iload 5, 2) := by decide +kernel
theorem d_Mod_transact_288 : decode b_Mod_transact 288 = .ok (.iload 9, 2) := by decide +kernel
theorem d_Mod_transact_290 : decode b_Mod_transact 290 = .ok (.isub, 1) := by decide +kernel
theorem d_Mod_transact_291 : decode b_Mod_transact 291 = .ok (.iload 6, 2) := by decide +kernel
theorem d_Mod_transact_293 : decode b_Mod_transact 293 = .ok (.imul, 1) := by decide +kernel
theorem d_Mod_transact_294 : decode b_Mod_transact 294 = .ok (.iadd, 1) := by decide +kernel
theorem d_Mod_transact_295 : decode b_Mod_transact 295 = .ok (.iastore, 1) := by decide +kernel
theorem d_Mod_transact_296 : decode b_Mod_transact 296 = .ok (.aload_n 0, 1) := by decide +kernel
theorem d_Mod_transact_297 : decode b_Mod_transact 297 = .ok (.getfield 7, 3) := by decide +kernel
theorem d_Mod_transact_300 : decode b_Mod_transact 300 = .ok (.bipush 36, 2) := by decide +kernel
theorem d_Mod_transact_302 : decode b_Mod_transact 302 = .ok (.aload_n 0, 1) := by decide +kernel
theorem d_Mod_transact_303 : decode b_Mod_transact 303 = .ok (.getfield 206, 3) := by decide +kernel
theorem d_Mod_transact_306 : decode b_Mod_transact 306 = .ok (.imul, 1) := by decide +kernel
theorem d_Mod_transact_307 : decode b_Mod_transact 307 = .ok (.dup2, 1) := by decide +kernel
theorem d_Mod_transact_308 : decode b_Mod_transact 308 = .ok (.iaload, 1) := by decide +kernel
theorem d_Mod_transact_309 : decode b_Mod_transact 309 = .ok (.iload 9, 2) := by decide +kernel
theorem d_Mod_transact_311 : decode b_Mod_transact 311 = .ok (.iload 6, 2) := by decide +kernel
theorem d_Mod_transact_313 : decode b_Mod_transact 313 = .ok (.imul, 1) := by decide +kernel
theorem d_Mod_transact_314 : decode b_Mod_transact 314 = .ok (.iadd, 1) := by decide +kernel
theorem d_Mod_transact_315 : decode b_Mod_transact 315 = .ok (.iastore, 1) := by decide +kernel
theorem d_Mod_transact_316 : decode b_Mod_transact 316 = .ok (.iconst 0, 1) := by decide +kernel
theorem d_Mod_transact_317 : decode b_Mod_transact 317 = .ok (.istore 10, 2) := by decide +kernel
theorem d_Mod_transact_319 : decode b_Mod_transact 319 = .ok (.iload 10, 2) := by decide +kernel
theorem d_Mod_transact_321 : decode b_Mod_transact 321 = .ok (.bipush 16, 2) := by decide +kernel
theorem d_Mod_transact_323 : decode b_Mod_transact 323 = .ok (.if_icmp .ge 32, 3) := by decide +kernel
theorem d_Mod_transact_326 : decode b_Mod_transact 326 = .ok (.aload_n 0, 1) := by decide +kernel
theorem d_Mod_transact_327 : decode b_Mod_transact 327 = .ok (.getfield 7, 3) := by decide +kernel
theorem d_Mod_transact_330 : decode b_Mod_transact 330 = .ok (.bipush 36, 2) := by decide +kernel
theorem d_Mod_transact_332 : decode b_Mod_transact 332 = .ok (.iload 10, 2) := by decide +kernel
theorem d_Mod_transact_334 : decode b_Mod_transact 334 = .ok (.imul, 1) := by decide +kernel
theorem d_Mod_transact_335 : decode b_Mod_transact 335 = .ok (.bipush 35, 2) := by decide +kernel
theorem d_Mod_transact_337 : decode b_Mod_transact 337 = .ok (.iadd, 1) := by decide +kernel
theorem d_Mod_transact_338 : decode b_Mod_transact 338 = .ok (.iaload, 1) := by decide +kernel
theorem d_Mod_transact_339 : decode b_Mod_transact 339 = .ok (.iconst 1, 1) := by decide +kernel
theorem d_Mod_transact_340 : decode b_Mod_transact 340 = .ok (.if_icmp .ne 9, 3) := by decide +kernel
theorem d_Mod_transact_343 : decode b_Mod_transact 343 = .ok (.aload_n 0, 1) := by decide +kernel
theorem d_Mod_transact_344 : decode b_Mod_transact 344 = .ok (.iload 10, 2) := by decide +kernel
theorem d_Mod_transact_346 : decode b_Mod_transact 346 = .ok (.invokevirtual 209, 3) := by decide +kernel
theorem d_Mod_transact_349 : decode b_Mod_transact 349 = .ok (.iinc 10 1, 3) := by decide +kernel
theorem d_Mod_transact_352 : decode b_Mod_transact 352 = .ok (.goto (-33), 3) := by decide +kernel
theorem d_Mod_transact_355 : decode b_Mod_transact 355 = .ok (.aload_n 0, 1) := by decide +kernel
theorem d_Mod_transact_356 : decode b_Mod_transact 356 = .ok (.getfield 212, 3) := by decide +kernel
theorem d_Mod_transact_359 : decode b_Mod_transact 359 = .ok (.bipush 16, 2) := by decide +kernel
theorem d_Mod_transact_361 : decode b_Mod_transact 361 = .ok (.if_icmp .ge 70, 3) := by decide +kernel
theorem d_Mod_transact_364 : decode b_Mod_transact 364 = .ok (.aload_n 0, 1) := by decide +kernel
theorem d_Mod_transact_365 : decode b_Mod_transact 365 = .ok (.getfield 16, 3) := by decide +kernel
theorem d_Mod_transact_368 : decode b_Mod_transact 368 = .ok (.iconst 4, 1) := by decide +kernel
theorem d_Mod_transact_369 : decode b_Mod_transact 369 = .ok (.aload_n 0, 1) := by decide +kernel
theorem d_Mod_transact_370 : decode b_Mod_transact 370 = .ok (.getfield 212, 3) := by decide +kernel
theorem d_Mod_transact_373 : decode b_Mod_transact 373 = .ok (.imul, 1) := by decide +kernel
theorem d_Mod_transact_374 : decode b_Mod_transact 374 = .ok (.aload_n 0, 1) := by decide +kernel
theorem d_Mod_transact_375 : decode b_Mod_transact 375 = .ok (.getfield 124, 3) := by decide +kernel
theorem d_Mod_transact_378 : decode b_Mod_transact 378 = .ok (.iastore, 1) := by decide +kernel
theorem d_Mod_transact_379 : decode b_Mod_transact 379 = .ok (.aload_n 0, 1) := by decide +kernel
theorem d_Mod_transact_380 : decode b_Mod_transact 380 = .ok (.getfield 16, 3) := by decide +kernel
theorem d_Mod_transact_383 : decode b_Mod_transact 383 = .ok (.iconst 4, 1) := by decide +kernel
theorem d_Mod_transact_384 : decode b_Mod_transact 384 = .ok (.aload_n 0, 1) := by decide +kernel
theorem d_Mod_transact_385 : decode b_Mod_transact 385 = .ok (.getfield 212, 3) := by decide +kernel
theorem d_Mod_transact_388 : decode b_Mod_transact 388 = .ok (.imul, 1) := by decide +kernel
theorem d_Mod_transact_389 : decode b_Mod_transact 389 = .ok (.iconst 1, 1) := by decide +kernel
theorem d_Mod_transact_390 : decode b_Mod_transact 390 = .ok (.iadd, 1) := by decide +kernel
theorem d_Mod_transact_391 : decode b_Mod_transact 391 = .ok (.iload 9, 2) := by decide +kernel
theorem d_Mod_transact_393 : decode b_Mod_transact 393 = .ok (.iastore, 1) := by decide +kernel
theorem d_Mod_transact_394 : decode b_Mod_transact 394 = .ok (.aload_n 0, 1) := by decide +kernel
theorem d_Mod_transact_395 : decode b_Mod_transact 395 = .ok (.getfield 16, 3) := by decide +kernel
theorem d_Mod_transact_398 : decode b_Mod_transact 398 = .ok (.iconst 4, 1) := by decide +kernel
theorem d_Mod_transact_399 : decode b_Mod_transact 399 = .ok (.aload_n 0, 1) := by decide +kernel
theorem d_Mod_transact_400 : decode b_Mod_transact 400 = .ok (.getfield 212, 3) := by decide +kernel
theorem d_Mod_transact_403 : decode b_Mod_transact 403 = .ok (.imul, 1) := by decide +kernel
theorem d_Mod_transact_404 : decode b_Mod_transact 404 = .ok (.iconst 2, 1) := by decide +kernel
theorem d_Mod_transact_405 : decode b_Mod_transact 405 = .ok (.iadd, 1) := by decide +kernel
theorem d_Mod_transact_406 : decode b_Mod_transact 406 = .ok (.aload_n 0, 1) := by decide +kernel
theorem d_Mod_transact_407 : decode b_Mod_transact 407 = .ok (.getfield 127, 3) := by decide +kernel
theorem d_Mod_transact_410 : decode b_Mod_transact 410 = .ok (.iastore, 1) := by decide +kernel
theorem d_Mod_transact_411 : decode b_Mod_transact 411 = .ok (.aload_n 0, 1) := by decide +kernel
theorem d_Mod_transact_412 : decode b_Mod_transact 412 = .ok (.getfield 16, 3) := by decide +kernel
theorem d_Mod_transact_415 : decode b_Mod_transact 415 = .ok (.iconst 4, 1) := by decide +kernel
theorem d_Mod_transact_416 : decode b_Mod_transact 416 = .ok (.aload_n 0, 1) := by decide +kernel
theorem d_Mod_transact_417 : decode b_Mod_transact 417 = .ok (.getfield 212, 3) := by decide +kernel
theorem d_Mod_transact_420 : decode b_Mod_transact 420 = .ok (.imul, 1) := by decide +kernel
theorem d_Mod_transact_421 : decode b_Mod_transact 421 = .ok (.iconst 3, 1) := by decide +kernel
theorem d_Mod_transact_422 : decode b_Mod_transact 422 = .ok (.iadd, 1) := by decide +kernel
theorem d_Mod_transact_423 : decode b_Mod_transact 423 = .ok (.aload_n 0, 1) := by decide +kernel
theorem d_Mod_transact_424 : decode b_Mod_transact 424 = .ok (.getfield 118, 3) := by decide +kernel
theorem d_Mod_transact_427 : decode b_Mod_transact 427 = .ok (.iload 8, 2) := by decide +kernel
theorem d_Mod_transact_429 : decode b_Mod_transact 429 = .ok (.isub, 1) := by decide +kernel
theorem d_Mod_transact_430 : decode b_Mod_transact 430 = .ok (.iastore, 1) := by decide +kernel
theorem d_Mod_transact_431 : decode b_Mod_transact 431 = .ok (.aload_n 0, 1) := by decide +kernel
theorem d_Mod_transact_432 : decode b_Mod_transact 432 = .ok (.dup, 1) := by decide +kernel
theorem d_Mod_transact_433 : decode b_Mod_transact 433 = .ok (.getfield 212, 3) := by decide +kernel
theorem d_Mod_transact_436 : decode b_Mod_transact 436 = .ok (.iconst 1, 1) := by decide +kernel
theorem d_Mod_transact_437 : decode b_Mod_transact 437 = .ok (.iadd, 1) := by decide +kernel
theorem d_Mod_transact_438 : decode b_Mod_transact 438 = .ok (.putfield 212, 3) := by decide +kernel
theorem d_Mod_transact_441 : decode b_Mod_transact 441 = .ok (.aload_n 0, 1) := by decide +kernel
theorem d_Mod_transact_442 : decode b_Mod_transact 442 = .ok (.dup, 1) := by decide +kernel
theorem d_Mod_transact_443 : decode b_Mod_transact 443 = .ok (.getfield 199, 3) := by decide +kernel
theorem d_Mod_transact_446 : decode b_Mod_transact 446 = .ok (.iload 9, 2) := by decide +kernel
theorem d_Mod_transact_448 : decode b_Mod_transact 448 = .ok (.iadd, 1) := by decide +kernel
theorem d_Mod_transact_449 : decode b_Mod_transact 449 = .ok (.putfield 199, 3) := by decide +kernel
theorem d_Mod_transact_452 : decode b_Mod_transact 452 = .ok (.iload 9, 2) := by decide +kernel
theorem d_Mod_transact_454 : decode b_Mod_transact 454 = .ok (.ireturn, 1) := by decide +kernel
theorem d_Mod_wipe_0 : decode b_Mod_wipe 0 = .ok (.iconst 0, 1) := by decide +kernel
theorem d_Mod_wipe_1 : decode b_Mod_wipe 1 = .ok (.istore_n 2, 1) := by decide +kernel
theorem d_Mod_wipe_2 : decode b_Mod_wipe 2 = .ok (.iload_n 2, 1) := by decide +kernel
theorem d_Mod_wipe_3 : decode b_Mod_wipe 3 = .ok (.bipush 36, 2) := by decide +kernel
theorem d_Mod_wipe_5 : decode b_Mod_wipe 5 = .ok (.if_icmp .ge 21, 3) := by decide +kernel
theorem d_Mod_wipe_8 : decode b_Mod_wipe 8 = .ok (.aload_n 0, 1) := by decide +kernel
theorem d_Mod_wipe_9 : decode b_Mod_wipe 9 = .ok (.getfield 7, 3) := by decide +kernel
theorem d_Mod_wipe_12 : decode b_Mod_wipe 12 = .ok (.bipush 36, 2) := by decide +kernel
theorem d_Mod_wipe_14 : decode b_Mod_wipe 14 = .ok (.iload_n 1, 1) := by decide +kernel
theorem d_Mod_wipe_15 : decode b_Mod_wipe 15 = .ok (.imul, 1) := by decide +kernel
theorem d_Mod_wipe_16 : decode b_Mod_wipe 16 = .ok (.iload_n 2, 1) := by decide +kernel
theorem d_Mod_wipe_17 : decode b_Mod_wipe 17 = .ok (.iadd, 1) := by decide +kernel
theorem d_Mod_wipe_18 : decode b_Mod_wipe 18 = .ok (.iconst 0, 1) := by decide +kernel
theorem d_Mod_wipe_19 : decode b_Mod_wipe 19 = .ok (.iastore, 1) := by decide +kernel
theorem d_Mod_wipe_20 : decode b_Mod_wipe 20 = .ok (.iinc 2 1, 3) := by decide +kernel
theorem d_Mod_wipe_23 : decode b_Mod_wipe 23 = .ok (.goto (-21), 3) := by decide +kernel
theorem d_Mod_wipe_26 : decode b_Mod_wipe 26 = .ok (.return_, 1) := by decide +kernel
end
section
theorem d_Mod_begin_0 : decode b_Mod_begin 0 = .ok (.aload_n 0, 1) := by decide +kernel
theorem d_Mod_begin_1 : decode b_Mod_begin 1 = .ok (.getfield 195, 3) := by decide +kernel
theorem d_Mod_begin_4 : decode b_Mod_begin 4 = .ok (.ifCond .ne 29, 3) := by decide +kernel
theorem d_Mod_begin_7 : decode b_Mod_begin 7 = .ok (.iload_n 1, 1) := by decide +kernel
theorem d_Mod_begin_8 : decode b_Mod_begin 8 = .ok (.aload_n 0, 1) := by decide +kernel
theorem d_Mod_begin_9 : decode b_Mod_begin 9 = .ok (.getfield 215, 3) := by decide +kernel
theorem d_Mod_begin_12 : decode b_Mod_begin 12 = .ok (.if_icmp .le 21, 3) := by decide +kernel
theorem d_Mod_begin_15 : decode b_Mod_begin 15 = .ok (.iload_n 2, 1) := by decide +kernel
theorem d_Mod_begin_16 : decode b_Mod_begin 16 = .ok (.bipush 16, 2) := by decide +kernel
theorem d_Mod_begin_18 : decode b_Mod_begin 18 = .ok (.invokestatic 81, 3) := by decide +kernel
theorem d_Mod_begin_21 : decode b_Mod_begin 21 = .ok (.ifCond .eq 12, 3) := by decide +kernel
theorem d_Mod_begin_24 : decode b_Mod_begin 24 = .ok (.aload_n 0, 1) := by decide +kernel
theorem d_Mod_begin_25 : decode b_Mod_begin 25 = .ok (.getfield 86, 3) := by decide +kernel
theorem d_Mod_begin_28 : decode b_Mod_begin 28 = .ok (.bipush 30, 2) := by decide +kernel
theorem d_Mod_begin_30 : decode b_Mod_begin 30 = .ok (.if_icmp .ne 5, 3) := by decide +kernel
theorem d_Mod_begin_33 : decode b_Mod_begin 33 = .ok (.iconst 0, 1) := by decide +kernel
theorem d_Mod_begin_34 : decode b_Mod_begin 34 = .ok (.ireturn, 1) := by decide +kernel
theorem d_Mod_begin_35 : decode b_Mod_begin 35 = .ok (.aload_n 0, 1) := by decide +kernel
theorem d_Mod_begin_36 : decode b_Mod_begin 36 = .ok (.dup, 1) := by decide +kernel
theorem d_Mod_begin_37 : decode b_Mod_begin 37 = .ok (.getfield 86, 3) := by decide +kernel
theorem d_Mod_begin_40 : decode b_Mod_begin 40 = .ok (.iconst 1, 1) := by decide +kernel
theorem d_Mod_begin_41 : decode b_Mod_begin 41 = .ok (.iadd, 1) := by decide +kernel
theorem d_Mod_begin_42 : decode b_Mod_begin 42 = .ok (.putfield 86, 3) := by decide +kernel
theorem d_Mod_begin_45 : decode b_Mod_begin 45 = .ok (.aload_n 0, 1) := by decide +kernel
theorem d_Mod_begin_46 : decode b_Mod_begin 46 = .ok (.iconst 1, 1) := by decide +kernel
theorem d_Mod_begin_47 : decode b_Mod_begin 47 = .ok (.putfield 195, 3) := by decide +kernel
theorem d_Mod_begin_50 : decode b_Mod_begin 50 = .ok (.aload_n 0, 1) := by decide +kernel
theorem d_Mod_begin_51 : decode b_Mod_begin 51 = .ok (.iload_n 1, 1) := by decide +kernel
theorem d_Mod_begin_52 : decode b_Mod_begin 52 = .ok (.putfield 218, 3) := by decide +kernel
theorem d_Mod_begin_55 : decode b_Mod_begin 55 = .ok (.aload_n 0, 1) := by decide +kernel
theorem d_Mod_begin_56 : decode b_Mod_begin 56 = .ok (.iload_n 2, 1) := by decide +kernel
theorem d_Mod_begin_57 : decode b_Mod_begin 57 = .ok (.putfield 206, 3) := by decide +kernel
theorem d_Mod_begin_60 : decode b_Mod_begin 60 = .ok (.iconst 0, 1) := by decide +kernel
theorem d_Mod_begin_61 : decode b_Mod_begin 61 = .ok (.istore_n 3, 1) := by decide +kernel
theorem d_Mod_begin_62 : decode b_Mod_begin 62 = .ok (.iload_n 3, 1) := by decide +kernel
theorem d_Mod_begin_63 : decode b_Mod_begin 63 = .ok (.sipush 576, 3) := by decide +kernel
theorem d_Mod_begin_66 : decode b_Mod_begin 66 = .ok (.if_icmp .ge 21, 3) := by decide +kernel
theorem d_Mod_begin_69 : decode b_Mod_begin 69 = .ok (.aload_n 0, 1) := by decide +kernel
theorem d_Mod_begin_70 : decode b_Mod_begin 70 = .ok (.getfield 13, 3) := by decide +kernel
theorem d_Mod_begin_73 : decode b_Mod_begin 73 = .ok (.iload_n 3, 1) := by decide +kernel
theorem d_Mod_begin_74 : decode b_Mod_begin 74 = .ok (.aload_n 0, 1) := by decide +kernel
theorem d_Mod_begin_75 : decode b_Mod_begin 75 = .ok (.getfield 7, 3) := by decide +kernel
theorem d_Mod_begin_78 : decode b_Mod_begin 78 = .ok (.iload_n 3, 1) := by decide +kernel
theorem d_Mod_begin_79 : decode b_Mod_begin 79 = .ok (.iaload, 1) := by decide +kernel
theorem d_Mod_begin_80 : decode b_Mod_begin 80 = .ok (.iastore, 1) := by decide +kernel
theorem d_Mod_begin_81 : decode b_Mod_begin 81 = .ok (.iinc 3 1, 3) := by decide +kernel
theorem d_Mod_begin_84 : decode b_Mod_begin 84 = .ok (.goto (-22), 3) := by decide +kernel
theorem d_Mod_begin_87 : decode b_Mod_begin 87 = .ok (.aload_n 0, 1) := by decide +kernel
theorem d_Mod_begin_88 : decode b_Mod_begin 88 = .ok (.iconst 0, 1) := by decide +kernel
theorem d_Mod_begin_89 : decode b_Mod_begin 89 = .ok (.putfield 199, 3) := by decide +kernel
theorem d_Mod_begin_92 : decode b_Mod_begin 92 = .ok (.aload_n 0, 1) := by decide +kernel
theorem d_Mod_begin_93 : decode b_Mod_begin 93 = .ok (.iconst 0, 1) := by decide +kernel
theorem d_Mod_begin_94 : decode b_Mod_begin 94 = .ok (.putfield 212, 3) := by decide +kernel
theorem d_Mod_begin_97 : decode b_Mod_begin 97 = .ok (.aload_n 0, 1) := by decide +kernel
theorem d_Mod_begin_98 : decode b_Mod_begin 98 = .ok (.iconst 0, 1) := by decide +kernel
theorem d_Mod_begin_99 : decode b_Mod_begin 99 = .ok (.putfield 118, 3) := by decide +kernel
theorem d_Mod_begin_102 : decode b_Mod_begin 102 = .ok (.iconst 1, 1) := by decide +kernel
theorem d_Mod_begin_103 : decode b_Mod_begin 103 = .ok (.ireturn, 1) := by decide +kernel
theorem d_Mod_seal_0 : decode b_Mod_seal 0 = .ok (.aload_n 0, 1) := by decide +kernel
theorem d_Mod_seal_1 : decode b_Mod_seal 1 = .ok (.getfield 195, 3) := by decide +kernel
theorem d_Mod_seal_4 : decode b_Mod_seal 4 = .ok (.ifCond .ne 5, 3) := by decide +kernel
theorem d_Mod_seal_7 : decode b_Mod_seal 7 = .ok (.iconst (-1), 1) := by decide +kernel
theorem d_Mod_seal_8 : decode b_Mod_seal 8 = .ok (.ireturn, 1) := by decide +kernel
theorem d_Mod_seal_9 : decode b_Mod_seal 9 = .ok (.aload_n 0, 1) := by decide +kernel
theorem d_Mod_seal_10 : decode b_Mod_seal 10 = .ok (.iconst 0, 1) := by decide +kernel
theorem d_Mod_seal_11 : decode b_Mod_seal 11 = .ok (.putfield 195, 3) := by decide +kernel
theorem d_Mod_seal_14 : decode b_Mod_seal 14 = .ok (.aload_n 0, 1) := by decide +kernel
theorem d_Mod_seal_15 : decode b_Mod_seal 15 = .ok (.getfield 7, 3) := by decide +kernel
theorem d_Mod_seal_18 : decode b_Mod_seal 18 = .ok (.bipush 36, 2) := by decide +kernel
theorem d_Mod_seal_20 : decode b_Mod_seal 20 = .ok (.aload_n 0, 1) := by decide +kernel
theorem d_Mod_seal_21 : decode b_Mod_seal 21 = .ok (.getfield 206, 3) := by decide +kernel
theorem d_Mod_seal_24 : decode b_Mod_seal 24 = .ok (.imul, 1) := by decide +kernel
theorem d_Mod_seal_25 : decode b_Mod_seal 25 = .ok (.dup2, 1) := by decide +kernel
theorem d_Mod_seal_26 : decode b_Mod_seal 26 = .ok (.iaload, 1) := by decide +kernel
theorem d_Mod_seal_27 : decode b_Mod_seal 27 = .ok (.bipush 50, 2) := by decide +kernel
theorem d_Mod_seal_29 : decode b_Mod_seal 29 = .ok (.iadd, 1) := by decide +kernel
theorem d_Mod_seal_30 : decode b_Mod_seal 30 = .ok (.iastore, 1) := by decide +kernel
theorem d_Mod_seal_31 : decode b_Mod_seal 31 = .ok (.iload_n 1, 1) := by decide +kernel
theorem d_Mod_seal_32 : decode b_Mod_seal 32 = .ok (.ifCond .ne 23, 3) := by decide +kernel
theorem d_Mod_seal_35 : decode b_Mod_seal 35 = .ok (.aload_n 0, 1) := by decide +kernel
theorem d_Mod_seal_36 : decode b_Mod_seal 36 = .ok (.dup, 1) := by decide +kernel
theorem d_Mod_seal_37 : decode b_Mod_seal 37 = .ok (.getfield 221, 3) := by decide +kernel
theorem d_Mod_seal_40 : decode b_Mod_seal 40 = .ok (.iconst 1, 1) := by decide +kernel
theorem d_Mod_seal_41 : decode b_Mod_seal 41 = .ok (.iadd, 1) := by decide +kernel
theorem d_Mod_seal_42 : decode b_Mod_seal 42 = .ok (.putfield 221, 3) := by decide +kernel
theorem d_Mod_seal_45 : decode b_Mod_seal 45 = .ok (.aload_n 0, 1) := by decide +kernel
theorem d_Mod_seal_46 : decode b_Mod_seal 46 = .ok (.aload_n 0, 1) := by decide +kernel
theorem d_Mod_seal_47 : decode b_Mod_seal 47 = .ok (.getfield 218, 3) := by decide +kernel
theorem d_Mod_seal_50 : decode b_Mod_seal 50 = .ok (.putfield 215, 3) := by decide +kernel
theorem d_Mod_seal_53 : decode b_Mod_seal 53 = .ok (.iconst 1, 1) := by decide +kernel
theorem d_Mod_seal_54 : decode b_Mod_seal 54 = .ok (.ireturn, 1) := by decide +kernel
theorem d_Mod_seal_55 : decode b_Mod_seal 55 = .ok (.aload_n 0, 1) := by decide +kernel
theorem d_Mod_seal_56 : decode b_Mod_seal 56 = .ok (.dup, 1) := by decide +kernel
theorem d_Mod_seal_57 : decode b_Mod_seal 57 = .ok (.getfield 224, 3) := by decide +kernel
theorem d_Mod_seal_60 : decode b_Mod_seal 60 = .ok (.iconst 1, 1) := by decide +kernel
theorem d_Mod_seal_61 : decode b_Mod_seal 61 = .ok (.iadd, 1) := by decide +kernel
theorem d_Mod_seal_62 : decode b_Mod_seal 62 = .ok (.putfield 224, 3) := by decide +kernel
theorem d_Mod_seal_65 : decode b_Mod_seal 65 = .ok (.iconst 0, 1) := by decide +kernel
theorem d_Mod_seal_66 : decode b_Mod_seal 66 = .ok (.istore_n 2, 1) := by decide +kernel
theorem d_Mod_seal_67 : decode b_Mod_seal 67 = .ok (.iload_n 2, 1) := by decide +kernel
theorem d_Mod_seal_68 : decode b_Mod_seal 68 = .ok (.sipush 576, 3) := by decide +kernel
theorem d_Mod_seal_71 : decode b_Mod_seal 71 = .ok (.if_icmp .ge 21, 3) := by decide +kernel
theorem d_Mod_seal_74 : decode b_Mod_seal 74 = .ok (.aload_n 0, 1) := by decide +kernel
theorem d_Mod_seal_75 : decode b_Mod_seal 75 = .ok (.getfield 7, 3) := by decide +kernel
theorem d_Mod_seal_78 : decode b_Mod_seal 78 = .ok (.iload_n 2, 1) := by decide +kernel
theorem d_Mod_seal_79 : decode b_Mod_seal 79 = .ok (.aload_n 0, 1) := by decide +kernel
theorem d_Mod_seal_80 : decode b_Mod_seal 80 = .ok (.getfield 13, 3) := by decide +kernel
theorem d_Mod_seal_83 : decode b_Mod_seal 83 = .ok (.iload_n 2, 1) := by decide +kernel
theorem d_Mod_seal_84 : decode b_Mod_seal 84 = .ok (.iaload, 1) := by decide +kernel
theorem d_Mod_seal_85 : decode b_Mod_seal 85 = .ok (.iastore, 1) := by decide +kernel
theorem d_Mod_seal_86 : decode b_Mod_seal 86 = .ok (.iinc 2 1, 3) := by decide +kernel
theorem d_Mod_seal_89 : decode b_Mod_seal 89 = .ok (.goto (-22), 3) := by decide +kernel
theorem d_Mod_seal_92 : decode b_Mod_seal 92 = .ok (.iconst 0, 1) := by decide +kernel
theorem d_Mod_seal_93 : decode b_Mod_seal 93 = .ok (.ireturn, 1) := by decide +kernel
theorem d_Mod_look_0 : decode b_Mod_look 0 = .ok (.iload_n 1, 1) := by decide +kernel
theorem d_Mod_look_1 : decode b_Mod_look 1 = .ok (.bipush 16, 2) := by decide +kernel
theorem d_Mod_look_3 : decode b_Mod_look 3 = .ok (.invokestatic 81, 3) := by decide +kernel
theorem d_Mod_look_6 : decode b_Mod_look 6 = .ok (.ifCond .eq 11, 3) := by decide +kernel
theorem d_Mod_look_9 : decode b_Mod_look 9 = .ok (.iload_n 2, 1) := by decide +kernel
theorem d_Mod_look_10 : decode b_Mod_look 10 = .ok (.iconst 5, 1) := by decide +kernel
theorem d_Mod_look_11 : decode b_Mod_look 11 = .ok (.invokestatic 81, 3) := by decide +kernel
theorem d_Mod_look_14 : decode b_Mod_look 14 = .ok (.ifCond .ne 5, 3) := by decide +kernel
theorem d_Mod_look_17 : decode b_Mod_look 17 = .ok (.iconst (-1), 1) := by decide +kernel
theorem d_Mod_look_18 : decode b_Mod_look 18 = .ok (.ireturn, 1) := by decide +kernel
theorem d_Mod_look_19 : decode b_Mod_look 19 = .ok (.iload_n 2, 1) := by decide +kernel
theorem d_Mod_look_20 : decode b_Mod_look 20 = .ok (.iconst 3, 1) := by decide +kernel
theorem d_Mod_look_21 : decode b_Mod_look 21 = .ok (.if_icmp .ge 17, 3) := by decide +kernel
theorem d_Mod_look_24 : decode b_Mod_look 24 = .ok (.aload_n 0, 1) := by decide +kernel
theorem d_Mod_look_25 : decode b_Mod_look 25 = .ok (.getfield 7, 3) := by decide +kernel
theorem d_Mod_look_28 : decode b_Mod_look 28 = .ok (.bipush 36, 2) := by decide +kernel
theorem d_Mod_look_30 : decode b_Mod_look 30 = .ok (.iload_n 1, 1) := by decide +kernel
theorem d_Mod_look_31 : decode b_Mod_look 31 = .ok (.imul, 1) := by decide +kernel
theorem d_Mod_look_32 : decode b_Mod_look 32 = .ok (.iload_n 2, 1) := by decide +kernel
theorem d_Mod_look_33 : decode b_Mod_look 33 = .ok (.iadd, 1) := by decide +kernel
theorem d_Mod_look_34 : decode b_Mod_look 34 = .ok (.iaload, 1) := by decide +kernel
theorem d_Mod_look_35 : decode b_Mod_look 35 = .ok (.goto 21, 3) := by decide +kernel
theorem d_Mod_look_38 : decode b_Mod_look 38 = .ok (.iload_n 2, 1) := by decide +kernel
theorem d_Mod_look_39 : decode b_Mod_look 39 = .ok (.iconst 3, 1) := by decide +kernel
theorem d_Mod_look_40 : decode b_Mod_look 40 = .ok (.if_icmp .ne 11, 3) := by decide +kernel
theorem d_Mod_look_43 : decode b_Mod_look 43 = .ok (.aload_n 0, 1) := by decide +kernel
theorem d_Mod_look_44 : decode b_Mod_look 44 = .ok (.iload_n 1, 1) := by decide +kernel
theorem d_Mod_look_45 : decode b_Mod_look 45 = .ok (.invokevirtual 102, 3) := by decide +kernel
theorem d_Mod_look_48 : decode b_Mod_look 48 = .ok (.goto 8, 3) := by decide +kernel
theorem d_Mod_look_51 : decode b_Mod_look 51 = .ok (.aload_n 0, 1) := by decide +kernel
theorem d_Mod_look_52 : decode b_Mod_look 52 = .ok (.iload_n 1, 1) := by decide +kernel
theorem d_Mod_look_53 : decode b_Mod_look 53 = .ok (.invokevirtual 105, 3) := by decide +kernel
theorem d_Mod_look_56 : decode b_Mod_look 56 = .ok (.ireturn, 1) := by decide +kernel
theorem d_Mod_slot_0 : decode b_Mod_slot 0 = .ok (.iload_n 1, 1) := by decide +kernel
theorem d_Mod_slot_1 : decode b_Mod_slot 1 = .ok (.bipush 16, 2) := by decide +kernel
theorem d_Mod_slot_3 : decode b_Mod_slot 3 = .ok (.invokestatic 81, 3) := by decide +kernel
theorem d_Mod_slot_6 : decode b_Mod_slot 6 = .ok (.ifCond .eq 29, 3) := by decide +kernel
theorem d_Mod_slot_9 : decode b_Mod_slot 9 = .ok (.iload_n 2, 1) := by decide +kernel
theorem d_Mod_slot_10 : decode b_Mod_slot 10 = .ok (.bipush 8, 2) := by decide +kernel
theorem d_Mod_slot_12 : decode b_Mod_slot 12 = .ok (.invokestatic 81, 3) := by decide +kernel
theorem d_Mod_slot_15 : decode b_Mod_slot 15 = .ok (.ifCond .eq 20, 3) := by decide +kernel
theorem d_Mod_slot_18 : decode b_Mod_slot 18 = .ok (.aload_n 0, 1) := by decide +kernel
theorem d_Mod_slot_19 : decode b_Mod_slot 19 = .ok (.getfield 7, 3) := by decide +kernel
theorem d_Mod_slot_22 : decode b_Mod_slot 22 = .ok (.bipush 36, 2) := by decide +kernel
theorem d_Mod_slot_24 : decode b_Mod_slot 24 = .ok (.iload_n 1, 1) := by decide +kernel
theorem d_Mod_slot_25 : decode b_Mod_slot 25 = .ok (.imul, 1) := by decide +kernel
theorem d_Mod_slot_26 : decode b_Mod_slot 26 = .ok (.bipush 27, 2) := by decide +kernel
theorem d_Mod_slot_28 : decode b_Mod_slot 28 = .ok (.iadd, 1) := by decide +kernel
theorem d_Mod_slot_29 : decode b_Mod_slot 29 = .ok (.iload_n 2, 1) := by decide +kernel
theorem d_Mod_slot_30 : decode b_Mod_slot 30 = .ok (.iadd, 1) := by decide +kernel
theorem d_Mod_slot_31 : decode b_Mod_slot 31 = .ok (.iaload, 1) := by decide +kernel
theorem d_Mod_slot_32 : decode b_Mod_slot 32 = .ok (.goto 4, 3) := by decide +kernel
theorem d_Mod_slot_35 : decode b_Mod_slot 35 = .ok (.iconst 0, 1) := by decide +kernel
theorem d_Mod_slot_36 : decode b_Mod_slot 36 = .ok (.ireturn, 1) := by decide +kernel
theorem d_Mod_word_0 : decode b_Mod_word 0 = .ok (.iload_n 1, 1) := by decide +kernel
theorem d_Mod_word_1 : decode b_Mod_word 1 = .ok (.bipush 16, 2) := by decide +kernel
theorem d_Mod_word_3 : decode b_Mod_word 3 = .ok (.invokestatic 81, 3) := by decide +kernel
theorem d_Mod_word_6 : decode b_Mod_word 6 = .ok (.ifCond .eq 38, 3) := by decide +kernel
theorem d_Mod_word_9 : decode b_Mod_word 9 = .ok (.iload_n 2, 1) := by decide +kernel
theorem d_Mod_word_10 : decode b_Mod_word 10 = .ok (.ifCond .lt 34, 3) := by decide +kernel
theorem d_Mod_word_13 : decode b_Mod_word 13 = .ok (.iload_n 2, 1) := by decide +kernel
theorem d_Mod_word_14 : decode b_Mod_word 14 = .ok (.aload_n 0, 1) := by decide +kernel
theorem d_Mod_word_15 : decode b_Mod_word 15 = .ok (.getfield 7, 3) := by decide +kernel
theorem d_Mod_word_18 : decode b_Mod_word 18 = .ok (.bipush 36, 2) := by decide +kernel
theorem d_Mod_word_20 : decode b_Mod_word 20 = .ok (.iload_n 1, 1) := by decide +kernel
theorem d_Mod_word_21 : decode b_Mod_word 21 = .ok (.imul, 1) := by decide +kernel
theorem d_Mod_word_22 : decode b_Mod_word 22 = .ok (.iconst 2, 1) := by decide +kernel
theorem d_Mod_word_23 : decode b_Mod_word 23 = .ok (.iadd, 1) := by decide +kernel
theorem d_Mod_word_24 : decode b_Mod_word 24 = .ok (.iaload, 1) := by decide +kernel
theorem d_Mod_word_25 : decode b_Mod_word 25 = .ok (.if_icmp .ge 19, 3) := by decide +kernel
theorem d_Mod_word_28 : decode b_Mod_word 28 = .ok (.aload_n 0, 1) := by decide +kernel
theorem d_Mod_word_29 : decode b_Mod_word 29 = .ok (.getfield 7, 3) := by decide +kernel
theorem d_Mod_word_32 : decode b_Mod_word 32 = .ok (.bipush 36, 2) := by decide +kernel
theorem d_Mod_word_34 : decode b_Mod_word 34 = .ok (.iload_n 1, 1) := by decide +kernel
theorem d_Mod_word_35 : decode b_Mod_word 35 = .ok (.imul, 1) := by decide +kernel
theorem d_Mod_word_36 : decode b_Mod_word 36 = .ok (.iconst 3, 1) := by decide +kernel
theorem d_Mod_word_37 : decode b_Mod_word 37 = .ok (.iadd, 1) := by decide +kernel
theorem d_Mod_word_38 : decode b_Mod_word 38 = .ok (.iload_n 2, 1) := by decide +kernel
theorem d_Mod_word_39 : decode b_Mod_word 39 = .ok (.iadd, 1) := by decide +kernel
theorem d_Mod_word_40 : decode b_Mod_word 40 = .ok (.iaload, 1) := by decide +kernel
theorem d_Mod_word_41 : decode b_Mod_word 41 = .ok (.goto 4, 3) := by decide +kernel
theorem d_Mod_word_44 : decode b_Mod_word 44 = .ok (.iconst 0, 1) := by decide +kernel
theorem d_Mod_word_45 : decode b_Mod_word 45 = .ok (.ireturn, 1) := by decide +kernel
theorem d_Mod_bloom_0 : decode b_Mod_bloom 0 = .ok (.iconst 0, 1) := by decide +kernel
theorem d_Mod_bloom_1 : decode b_Mod_bloom 1 = .ok (.istore_n 1, 1) := by decide +kernel
theorem d_Mod_bloom_2 : decode b_Mod_bloom 2 = .ok (.iconst 0, 1) := by decide +kernel
theorem d_Mod_bloom_3 : decode b_Mod_bloom 3 = .ok (.istore_n 2, 1) := by decide +kernel
theorem d_Mod_bloom_4 : decode b_Mod_bloom 4 = .ok (.iload_n 2, 1) := by decide +kernel
theorem d_Mod_bloom_5 : decode b_Mod_bloom 5 = .ok (.aload_n 0, 1) := by decide +kernel
theorem d_Mod_bloom_6 : decode b_Mod_bloom 6 = .ok (.getfield 118, 3) := by decide +kernel
theorem d_Mod_bloom_9 : decode b_Mod_bloom 9 = .ok (.if_icmp .ge 37, 3) := by decide +kernel
theorem d_Mod_bloom_12 : decode b_Mod_bloom 12 = .ok (.aload_n 0, 1) := by decide +kernel
theorem d_Mod_bloom_13 : decode b_Mod_bloom 13 = .ok (.getfield 22, 3) := by decide +kernel
theorem d_Mod_bloom_16 : decode b_Mod_bloom 16 = .ok (.iload_n 2, 1) := by decide +kernel
theorem d_Mod_bloom_17 : decode b_Mod_bloom 17 = .ok (.iaload, 1) := by decide +kernel
theorem d_Mod_bloom_18 : decode b_Mod_bloom 18 = .ok (.istore_n 3, 1) := by decide +kernel
theorem d_Mod_bloom_19 : decode b_Mod_bloom 19 = .ok (.iload_n 1, 1) := by decide +kernel
theorem d_Mod_bloom_20 : decode b_Mod_bloom 20 = .ok (.iconst 1, 1) := by decide +kernel
theorem d_Mod_bloom_21 : decode b_Mod_bloom 21 = .ok (.iload_n 3, 1) := by decide +kernel
theorem d_Mod_bloom_22 : decode b_Mod_bloom 22 = .ok (.bipush 31, 2) := by decide +kernel
theorem d_Mod_bloom_24 : decode b_Mod_bloom 24 = .ok (.iand, 1) := by decide +kernel
theorem d_Mod_bloom_25 : decode b_Mod_bloom 25 = .ok (.ishl, 1) := by decide +kernel
theorem d_Mod_bloom_26 : decode b_Mod_bloom 26 = .ok (.ior, 1) := by decide +kernel
theorem d_Mod_bloom_27 : decode b_Mod_bloom 27 = .ok (.iconst 1, 1) := by decide +kernel
theorem d_Mod_bloom_28 : decode b_Mod_bloom 28 = .ok (.bipush 6, 2) := by decide +kernel
theorem d_Mod_bloom_30 : decode b_Mod_bloom 30 = .ok (.iload_n 3, 1) := by decide +kernel
theorem d_Mod_bloom_31 : decode b_Mod_bloom 31 = .ok (.invokestatic 94, 3) := by decide +kernel
theorem d_Mod_bloom_34 : decode b_Mod_bloom 34 = .ok (.bipush 31, 2) := by decide +kernel
theorem d_Mod_bloom_36 : decode b_Mod_bloom 36 = .ok (.iand, 1) := by decide +kernel
theorem d_Mod_bloom_37 : decode b_Mod_bloom 37 = .ok (.ishl, 1) := by decide +kernel
theorem d_Mod_bloom_38 : decode b_Mod_bloom 38 = .ok (.ior, 1) := by decide +kernel
theorem d_Mod_bloom_39 : decode b_Mod_bloom 39 = .ok (.istore_n 1, 1) := by decide +kernel
theorem d_Mod_bloom_40 : decode b_Mod_bloom 40 = .ok (.iinc 2 1, 3) := by decide +kernel
theorem d_Mod_bloom_43 : decode b_Mod_bloom 43 = .ok (.goto (-39), 3) := by decide +kernel
theorem d_Mod_bloom_46 : decode b_Mod_bloom 46 = .ok (.iload_n 1, 1) := by decide +kernel
theorem d_Mod_bloom_47 : decode b_Mod_bloom 47 = .ok (.ireturn, 1) := by decide +kernel
theorem d_Mod_block_0 : decode b_Mod_block 0 = .ok (.iload_n 1, 1) := by decide +kernel
theorem d_Mod_block_1 : decode b_Mod_block 1 = .ok (.iconst 4, 1) := by decide +kernel
theorem d_Mod_block_2 : decode b_Mod_block 2 = .ok (.if_icmp .ge 60, 3) := by decide +kernel
theorem d_Mod_block_5 : decode b_Mod_block 5 = .ok (.iload_n 1, 1) := by decide +kernel
theorem d_Mod_block_6 : decode b_Mod_block 6 = .ok (.ifCond .ne 10, 3) := by decide +kernel
theorem d_Mod_block_9 : decode b_Mod_block 9 = .ok (.aload_n 0, 1) := by decide +kernel
theorem d_Mod_block_10 : decode b_Mod_block 10 = .ok (.getfield 221, 3) := by decide +kernel
theorem d_Mod_block_13 : decode b_Mod_block 13 = .ok (.goto 48, 3) := by decide +kernel
theorem d_Mod_block_16 : decode b_Mod_block 16 = .ok (.iload_n 1, 1) := by decide +kernel
theorem d_Mod_block_17 : decode b_Mod_block 17 = .ok (.iconst 1, 1) := by decide +kernel
theorem d_Mod_block_18 : decode b_Mod_block 18 = .ok (.if_icmp .ne 10, 3) := by decide +kernel
theorem d_Mod_block_21 : decode b_Mod_block 21 = .ok (.aload_n 0, 1) := by decide +kernel
theorem d_Mod_block_22 : decode b_Mod_block 22 = .ok (.getfield 224, 3) := by decide +kernel
theorem d_Mod_block_25 : decode b_Mod_block 25 = .ok (.goto 36, 3) := by decide +kernel
theorem d_Mod_block_28 : decode b_Mod_block 28 = .ok (.iload_n 1, 1) := by decide +kernel
theorem d_Mod_block_29 : decode b_Mod_block 29 = .ok (.iconst 2, 1) := by decide +kernel
theorem d_Mod_block_30 : decode b_Mod_block 30 = .ok (.if_icmp .ne 10, 3) := by decide +kernel
theorem d_Mod_block_33 : decode b_Mod_block 33 = .ok (.aload_n 0, 1) := by decide +kernel
theorem d_Mod_block_34 : decode b_Mod_block 34 = .ok (.getfield 215, 3) := by decide +kernel
theorem d_Mod_block_37 : decode b_Mod_block 37 = .ok (.goto 24, 3) := by decide +kernel
theorem d_Mod_block_40 : decode b_Mod_block 40 = .ok (.iload_n 1, 1) := by decide +kernel
theorem d_Mod_block_41 : decode b_Mod_block 41 = .ok (.iconst 3, 1) := by decide +kernel
theorem d_Mod_block_42 : decode b_Mod_block 42 = .ok (.if_icmp .ne 18, 3) := by decide +kernel
theorem d_Mod_block_45 : decode b_Mod_block 45 = .ok (.aload_n 0, 1) := by decide +kernel
theorem d_Mod_block_46 : decode b_Mod_block 46 = .ok (.getfield 195, 3) := by decide +kernel
theorem d_Mod_block_49 : decode b_Mod_block 49 = .ok (.ifCond .eq 7, 3) := by decide +kernel
theorem d_Mod_block_52 : decode b_Mod_block 52 = .ok (.iconst 1, 1) := by decide +kernel
theorem d_Mod_block_53 : decode b_Mod_block 53 = .ok (.goto 8, 3) := by decide +kernel
theorem d_Mod_block_56 : decode b_Mod_block 56 = .ok (.iconst 0, 1) := by decide +kernel
theorem d_Mod_block_57 : decode b_Mod_block 57 = .ok (.goto 4, 3) := by decide +kernel
theorem d_Mod_block_60 : decode b_Mod_block 60 = .ok (.iconst (-1), 1) := by decide +kernel
theorem d_Mod_block_61 : decode b_Mod_block 61 = .ok (.ireturn, 1) := by decide +kernel
theorem d_Mod_block_62 : decode b_Mod_block 62 = .ok (.iload_n 1, 1) := by decide +kernel
theorem d_Mod_block_63 : decode b_Mod_block 63 = .ok (.iconst 4, 1) := by decide +kernel
theorem d_Mod_block_64 : decode b_Mod_block 64 = .ok (.if_icmp .ne 10, 3) := by decide +kernel
theorem d_Mod_block_67 : decode b_Mod_block 67 = .ok (.aload_n 0, 1) := by decide +kernel
theorem d_Mod_block_68 : decode b_Mod_block 68 = .ok (.getfield 199, 3) := by decide +kernel
theorem d_Mod_block_71 : decode b_Mod_block 71 = .ok (.goto 42, 3) := by decide +kernel
theorem d_Mod_block_74 : decode b_Mod_block 74 = .ok (.iload_n 1, 1) := by decide +kernel
theorem d_Mod_block_75 : decode b_Mod_block 75 = .ok (.iconst 5, 1) := by decide +kernel
theorem d_Mod_block_76 : decode b_Mod_block 76 = .ok (.if_icmp .ne 10, 3) := by decide +kernel
theorem d_Mod_block_79 : decode b_Mod_block 79 = .ok (.aload_n 0, 1) := by decide +kernel
theorem d_Mod_block_80 : decode b_Mod_block 80 = .ok (.invokevirtual 227, 3) := by decide +kernel
theorem d_Mod_block_83 : decode b_Mod_block 83 = .ok (.goto 30, 3) := by decide +kernel
theorem d_Mod_block_86 : decode b_Mod_block 86 = .ok (.iload_n 1, 1) := by decide +kernel
theorem d_Mod_block_87 : decode b_Mod_block 87 = .ok (.bipush 6, 2) := by decide +kernel
theorem d_Mod_block_89 : decode b_Mod_block 89 = .ok (.if_icmp .ne 10, 3) := by decide +kernel
theorem d_Mod_block_92 : decode b_Mod_block 92 = .ok (.aload_n 0, 1) := by decide +kernel
theorem d_Mod_block_93 : decode b_Mod_block 93 = .ok (.getfield 212, 3) := by decide +kernel
theorem d_Mod_block_96 : decode b_Mod_block 96 = .ok (.goto 17, 3) := by decide +kernel
theorem d_Mod_block_99 : decode b_Mod_block 99 = .ok (.iload_n 1, 1) := by decide +kernel
theorem d_Mod_block_100 : decode b_Mod_block 100 = .ok (.bipush 7, 2) := by decide +kernel
theorem d_Mod_block_102 : decode b_Mod_block 102 = .ok (.if_icmp .ne 10, 3) := by decide +kernel
theorem d_Mod_block_105 : decode b_Mod_block 105 = .ok (.aload_n 0, 1) := by decide +kernel
theorem d_Mod_block_106 : decode b_Mod_block 106 = .ok (.getfield 118, 3) := by decide +kernel
theorem d_Mod_block_109 : decode b_Mod_block 109 = .ok (.goto 4, 3) := by decide +kernel
theorem d_Mod_block_112 : decode b_Mod_block 112 = .ok (.iconst (-1), 1) := by decide +kernel
theorem d_Mod_block_113 : decode b_Mod_block 113 = .ok (.ireturn, 1) := by decide +kernel
theorem d_Mod_receipt_0 : decode b_Mod_receipt 0 = .ok (.iload_n 1, 1) := by decide +kernel
theorem d_Mod_receipt_1 : decode b_Mod_receipt 1 = .ok (.ifCond .lt 38, 3) := by decide +kernel
theorem d_Mod_receipt_4 : decode b_Mod_receipt 4 = .ok (.iload_n 1, 1) := by decide +kernel
theorem d_Mod_receipt_5 : decode b_Mod_receipt 5 = .ok (.aload_n 0, 1) := by decide +kernel
theorem d_Mod_receipt_6 : decode b_Mod_receipt 6 = .ok (.getfield 212, 3) := by decide +kernel
theorem d_Mod_receipt_9 : decode b_Mod_receipt 9 = .ok (.if_icmp .ge 30, 3) := by decide +kernel
theorem d_Mod_receipt_12 : decode b_Mod_receipt 12 = .ok (.iload_n 1, 1) := by decide +kernel
theorem d_Mod_receipt_13 : decode b_Mod_receipt 13 = .ok (.bipush 16, 2) := by decide +kernel
theorem d_Mod_receipt_15 : decode b_Mod_receipt 15 = .ok (.if_icmp .ge 24, 3) := by decide +kernel
theorem d_Mod_receipt_18 : decode b_Mod_receipt 18 = .ok (.iload_n 2, 1) := by decide +kernel
theorem d_Mod_receipt_19 : decode b_Mod_receipt 19 = .ok (.iconst 4, 1) := by decide +kernel
theorem d_Mod_receipt_20 : decode b_Mod_receipt 20 = .ok (.invokestatic 81, 3) := by decide +kernel
theorem d_Mod_receipt_23 : decode b_Mod_receipt 23 = .ok (.ifCond .eq 16, 3) := by decide +kernel
theorem d_Mod_receipt_26 : decode b_Mod_receipt 26 = .ok (.aload_n 0, 1) := by decide +kernel
theorem d_Mod_receipt_27 : decode b_Mod_receipt 27 = .ok (.getfield 16, 3) := by decide +kernel
theorem d_Mod_receipt_30 : decode b_Mod_receipt 30 = .ok (.iconst 4, 1) := by decide +kernel
theorem d_Mod_receipt_31 : decode b_Mod_receipt 31 = .ok (.iload_n 1, 1) := by decide +kernel
theorem d_Mod_receipt_32 : decode b_Mod_receipt 32 = .ok (.imul, 1) := by decide +kernel
theorem d_Mod_receipt_33 : decode b_Mod_receipt 33 = .ok (.iload_n 2, 1) := by decide +kernel
theorem d_Mod_receipt_34 : decode b_Mod_receipt 34 = .ok (.iadd, 1) := by decide +kernel
theorem d_Mod_receipt_35 : decode b_Mod_receipt 35 = .ok (.iaload, 1) := by decide +kernel
theorem d_Mod_receipt_36 : decode b_Mod_receipt 36 = .ok (.goto 4, 3) := by decide +kernel
theorem d_Mod_receipt_39 : decode b_Mod_receipt 39 = .ok (.iconst (-1), 1) := by decide +kernel
theorem d_Mod_receipt_40 : decode b_Mod_receipt 40 = .ok (.ireturn, 1) := by decide +kernel
theorem d_Mod_log_0 : decode b_Mod_log 0 = .ok (.iload_n 1, 1) := by decide +kernel
theorem d_Mod_log_1 : decode b_Mod_log 1 = .ok (.ifCond .lt 25, 3) := by decide +kernel
theorem d_Mod_log_4 : decode b_Mod_log 4 = .ok (.iload_n 1, 1) := by decide +kernel
theorem d_Mod_log_5 : decode b_Mod_log 5 = .ok (.aload_n 0, 1) := by decide +kernel
theorem d_Mod_log_6 : decode b_Mod_log 6 = .ok (.getfield 118, 3) := by decide +kernel
theorem d_Mod_log_9 : decode b_Mod_log 9 = .ok (.if_icmp .ge 17, 3) := by decide +kernel
theorem d_Mod_log_12 : decode b_Mod_log 12 = .ok (.iload_n 1, 1) := by decide +kernel
theorem d_Mod_log_13 : decode b_Mod_log 13 = .ok (.bipush 15, 2) := by decide +kernel
theorem d_Mod_log_15 : decode b_Mod_log 15 = .ok (.if_icmp .gt 11, 3) := by decide +kernel
theorem d_Mod_log_18 : decode b_Mod_log 18 = .ok (.iload_n 2, 1) := by decide +kernel
theorem d_Mod_log_19 : decode b_Mod_log 19 = .ok (.iconst 2, 1) := by decide +kernel
theorem d_Mod_log_20 : decode b_Mod_log 20 = .ok (.invokestatic 81, 3) := by decide +kernel
theorem d_Mod_log_23 : decode b_Mod_log 23 = .ok (.ifCond .ne 7, 3) := by decide +kernel
theorem d_Mod_log_26 : decode b_Mod_log 26 = .ok (.iconst (-1), 1) := by decide +kernel
theorem d_Mod_log_27 : decode b_Mod_log 27 = .ok (.goto 22, 3) := by decide +kernel
theorem d_Mod_log_30 : decode b_Mod_log 30 = .ok (.iload_n 2, 1) := by decide +kernel
theorem d_Mod_log_31 : decode b_Mod_log 31 = .ok (.ifCond .ne 12, 3) := by decide +kernel
theorem d_Mod_log_34 : decode b_Mod_log 34 = .ok (.aload_n 0, 1) := by decide +kernel
theorem d_Mod_log_35 : decode b_Mod_log 35 = .ok (.getfield 19, 3) := by decide +kernel
theorem d_Mod_log_38 : decode b_Mod_log 38 = .ok (.iload_n 1, 1) := by decide +kernel
theorem d_Mod_log_39 : decode b_Mod_log 39 = .ok (.iaload, 1) := by decide +kernel
theorem d_Mod_log_40 : decode b_Mod_log 40 = .ok (.goto 9, 3) := by decide +kernel
theorem d_Mod_log_43 : decode b_Mod_log 43 = .ok (.aload_n 0, 1) := by decide +kernel
theorem d_Mod_log_44 : decode b_Mod_log 44 = .ok (.getfield 22, 3) := by decide +kernel
theorem d_Mod_log_47 : decode b_Mod_log 47 = .ok (.iload_n 1, 1) := by decide +kernel
theorem d_Mod_log_48 : decode b_Mod_log 48 = .ok (.iaload, 1) := by decide +kernel
theorem d_Mod_log_49 : decode b_Mod_log 49 = .ok (.ireturn, 1) := by decide +kernel
theorem d_Mod_total_0 : decode b_Mod_total 0 = .ok (.lconst 0, 1) := by decide +kernel
theorem d_Mod_total_1 : decode b_Mod_total 1 = .ok (.lstore_n 1, 1) := by decide +kernel
theorem d_Mod_total_2 : decode b_Mod_total 2 = .ok (.iconst 0, 1) := by decide +kernel
theorem d_Mod_total_3 : decode b_Mod_total 3 = .ok (.istore_n 3, 1) := by decide +kernel
theorem d_Mod_total_4 : decode b_Mod_total 4 = .ok (.iload_n 3, 1) := by decide +kernel
theorem d_Mod_total_5 : decode b_Mod_total 5 = .ok (.bipush 16, 2) := by decide +kernel
theorem d_Mod_total_7 : decode b_Mod_total 7 = .ok (.if_icmp .ge 22, 3) := by decide +kernel
theorem d_Mod_total_10 : decode b_Mod_total 10 = .ok (.lload_n 1, 1) := by decide +kernel
theorem d_Mod_total_11 : decode b_Mod_total 11 = .ok (.aload_n 0, 1) := by decide +kernel
theorem d_Mod_total_12 : decode b_Mod_total 12 = .ok (.getfield 7, 3) := by decide +kernel
theorem d_Mod_total_15 : decode b_Mod_total 15 = .ok (.bipush 36, 2) := by decide +kernel
theorem d_Mod_total_17 : decode b_Mod_total 17 = .ok (.iload_n 3, 1) := by decide +kernel
theorem d_Mod_total_18 : decode b_Mod_total 18 = .ok (.imul, 1) := by decide +kernel
theorem d_Mod_total_19 : decode b_Mod_total 19 = .ok (.iaload, 1) := by decide +kernel
theorem d_Mod_total_20 : decode b_Mod_total 20 = .ok (.i2l, 1) := by decide +kernel
theorem d_Mod_total_21 : decode b_Mod_total 21 = .ok (.ladd, 1) := by decide +kernel
theorem d_Mod_total_22 : decode b_Mod_total 22 = .ok (.lstore_n 1, 1) := by decide +kernel
theorem d_Mod_total_23 : decode b_Mod_total 23 = .ok (.iinc 3 1, 3) := by decide +kernel
theorem d_Mod_total_26 : decode b_Mod_total 26 = .ok (.goto (-22), 3) := by decide +kernel
theorem d_Mod_total_29 : decode b_Mod_total 29 = .ok (.lload_n 1, 1) := by decide +kernel
theorem d_Mod_total_30 : decode b_Mod_total 30 = .ok (.lreturn, 1) := by decide +kernel
theorem d_Acc_init_0 : decode b_Acc_init 0 = .ok (.aload_n 0, 1) := by decide +kernel
theorem d_Acc_init_1 : decode b_Acc_init 1 = .ok (.invokespecial 3, 3) := by decide +kernel
theorem d_Acc_init_4 : decode b_Acc_init 4 = .ok (.aload_n 0, 1) := by decide +kernel
theorem d_Acc_init_5 : decode b_Acc_init 5 = .ok (.bipush 16, 2) := by decide +kernel
theorem d_Acc_init_7 : decode b_Acc_init 7 = .ok (.newarray .int, 2) := by decide +kernel
theorem d_Acc_init_9 : decode b_Acc_init 9 = .ok (.putfield 9, 3) := by decide +kernel
theorem d_Acc_init_12 : decode b_Acc_init 12 = .ok (.aload_n 0, 1) := by decide +kernel
theorem d_Acc_init_13 : decode b_Acc_init 13 = .ok (.bipush 16, 2) := by decide +kernel
theorem d_Acc_init_15 : decode b_Acc_init 15 = .ok (.newarray .int, 2) := by decide +kernel
theorem d_Acc_init_17 : decode b_Acc_init 17 = .ok (.putfield 15, 3) := by decide +kernel
theorem d_Acc_init_20 : decode b_Acc_init 20 = .ok (.aload_n 0, 1) := by decide +kernel
theorem d_Acc_init_21 : decode b_Acc_init 21 = .ok (.bipush 16, 2) := by decide +kernel
theorem d_Acc_init_23 : decode b_Acc_init 23 = .ok (.newarray .int, 2) := by decide +kernel
theorem d_Acc_init_25 : decode b_Acc_init 25 = .ok (.putfield 18, 3) := by decide +kernel
theorem d_Acc_init_28 : decode b_Acc_init 28 = .ok (.aload_n 0, 1) := by decide +kernel
theorem d_Acc_init_29 : decode b_Acc_init 29 = .ok (.sipush 384, 3) := by decide +kernel
theorem d_Acc_init_32 : decode b_Acc_init 32 = .ok (.newarray .int, 2) := by decide +kernel
theorem d_Acc_init_34 : decode b_Acc_init 34 = .ok (.putfield 21, 3) := by decide +kernel
theorem d_Acc_init_37 : decode b_Acc_init 37 = .ok (.aload_n 0, 1) := by decide +kernel
theorem d_Acc_init_38 : decode b_Acc_init 38 = .ok (.sipush 128, 3) := by decide +kernel
theorem d_Acc_init_41 : decode b_Acc_init 41 = .ok (.newarray .int, 2) := by decide +kernel
theorem d_Acc_init_43 : decode b_Acc_init 43 = .ok (.putfield 24, 3) := by decide +kernel
theorem d_Acc_init_46 : decode b_Acc_init 46 = .ok (.aload_n 0, 1) := by decide +kernel
theorem d_Acc_init_47 : decode b_Acc_init 47 = .ok (.bipush 16, 2) := by decide +kernel
theorem d_Acc_init_49 : decode b_Acc_init 49 = .ok (.newarray .int, 2) := by decide +kernel
theorem d_Acc_init_51 : decode b_Acc_init 51 = .ok (.putfield 27, 3) := by decide +kernel
theorem d_Acc_init_54 : decode b_Acc_init 54 = .ok (.return_, 1) := by decide +kernel
theorem d_Acc_copyFrom_0 : decode b_Acc_copyFrom 0 = .ok (.aload_n 1, 1) := by decide +kernel
theorem d_Acc_copyFrom_1 : decode b_Acc_copyFrom 1 = .ok (.getfield 9, 3) := by decide +kernel
theorem d_Acc_copyFrom_4 : decode b_Acc_copyFrom 4 = .ok (.iconst 0, 1) := by decide +kernel
theorem d_Acc_copyFrom_5 : decode b_Acc_copyFrom 5 = .ok (.aload_n 0, 1) := by decide +kernel
theorem d_Acc_copyFrom_6 : decode b_Acc_copyFrom 6 = .ok (.getfield 9, 3) := by decide +kernel
theorem d_Acc_copyFrom_9 : decode b_Acc_copyFrom 9 = .ok (.iconst 0, 1) := by decide +kernel
theorem d_Acc_copyFrom_10 : decode b_Acc_copyFrom 10 = .ok (.bipush 16, 2) := by decide +kernel
theorem d_Acc_copyFrom_12 : decode b_Acc_copyFrom 12 = .ok (.invokestatic 30, 3) := by decide +kernel
theorem d_Acc_copyFrom_15 : decode b_Acc_copyFrom 15 = .ok (.aload_n 1, 1) := by decide +kernel
theorem d_Acc_copyFrom_16 : decode b_Acc_copyFrom 16 = .ok (.getfield 15, 3) := by decide +kernel
theorem d_Acc_copyFrom_19 : decode b_Acc_copyFrom 19 = .ok (.iconst 0, 1) := by decide +kernel
theorem d_Acc_copyFrom_20 : decode b_Acc_copyFrom 20 = .ok (.aload_n 0, 1) := by decide +kernel
theorem d_Acc_copyFrom_21 : decode b_Acc_copyFrom 21 = .ok (.getfield 15, 3) := by decide +kernel
theorem d_Acc_copyFrom_24 : decode b_Acc_copyFrom 24 = .ok (.iconst 0, 1) := by decide +kernel
theorem d_Acc_copyFrom_25 : decode b_Acc_copyFrom 25 = .ok (.bipush 16, 2) := by decide +kernel
theorem d_Acc_copyFrom_27 : decode b_Acc_copyFrom 27 = .ok (.invokestatic 30, 3) := by decide +kernel
theorem d_Acc_copyFrom_30 : decode b_Acc_copyFrom 30 = .ok (.aload_n 1, 1) := by decide +kernel
theorem d_Acc_copyFrom_31 : decode b_Acc_copyFrom 31 = .ok (.getfield 18, 3) := by decide +kernel
theorem d_Acc_copyFrom_34 : decode b_Acc_copyFrom 34 = .ok (.iconst 0, 1) := by decide +kernel
theorem d_Acc_copyFrom_35 : decode b_Acc_copyFrom 35 = .ok (.aload_n 0, 1) := by decide +kernel
theorem d_Acc_copyFrom_36 : decode b_Acc_copyFrom 36 = .ok (.getfield 18, 3) := by decide +kernel
theorem d_Acc_copyFrom_39 : decode b_Acc_copyFrom 39 = .ok (.iconst 0, 1) := by decide +kernel
theorem d_Acc_copyFrom_40 : decode b_Acc_copyFrom 40 = .ok (.bipush 16, 2) := by decide +kernel
theorem d_Acc_copyFrom_42 : decode b_Acc_copyFrom 42 = .ok (.invokestatic 30, 3) := by decide +kernel
theorem d_Acc_copyFrom_45 : decode b_Acc_copyFrom 45 = .ok (.aload_n 1, 1) := by decide +kernel
theorem d_Acc_copyFrom_46 : decode b_Acc_copyFrom 46 = .ok (.getfield 21, 3) := by decide +kernel
theorem d_Acc_copyFrom_49 : decode b_Acc_copyFrom 49 = .ok (.iconst 0, 1) := by decide +kernel
theorem d_Acc_copyFrom_50 : decode b_Acc_copyFrom 50 = .ok (.aload_n 0, 1) := by decide +kernel
theorem d_Acc_copyFrom_51 : decode b_Acc_copyFrom 51 = .ok (.getfield 21, 3) := by decide +kernel
theorem d_Acc_copyFrom_54 : decode b_Acc_copyFrom 54 = .ok (.iconst 0, 1) := by decide +kernel
theorem d_Acc_copyFrom_55 : decode b_Acc_copyFrom 55 = .ok (.sipush 384, 3) := by decide +kernel
theorem d_Acc_copyFrom_58 : decode b_Acc_copyFrom 58 = .ok (.invokestatic 30, 3) := by decide +kernel
theorem d_Acc_copyFrom_61 : decode b_Acc_copyFrom 61 = .ok (.aload_n 1, 1) := by decide +kernel
theorem d_Acc_copyFrom_62 : decode b_Acc_copyFrom 62 = .ok (.getfield 24, 3) := by decide +kernel
theorem d_Acc_copyFrom_65 : decode b_Acc_copyFrom 65 = .ok (.iconst 0, 1) := by decide +kernel
theorem d_Acc_copyFrom_66 : decode b_Acc_copyFrom 66 = .ok (.aload_n 0, 1) := by decide +kernel
theorem d_Acc_copyFrom_67 : decode b_Acc_copyFrom 67 = .ok (.getfield 24, 3) := by decide +kernel
theorem d_Acc_copyFrom_70 : decode b_Acc_copyFrom 70 = .ok (.iconst 0, 1) := by decide +kernel
theorem d_Acc_copyFrom_71 : decode b_Acc_copyFrom 71 = .ok (.sipush 128, 3) := by decide +kernel
theorem d_Acc_copyFrom_74 : decode b_Acc_copyFrom 74 = .ok (.invokestatic 30, 3) := by decide +kernel
theorem d_Acc_copyFrom_77 : decode b_Acc_copyFrom 77 = .ok (.return_, 1) := by decide +kernel
end
section
theorem d_Acc_append_0 : decode b_Acc_append 0 = .ok (.aload_n 0, 1) := by decide +kernel
theorem d_Acc_append_1 : decode b_Acc_append 1 = .ok (.getfield 18, 3) := by decide +kernel
theorem d_Acc_append_4 : decode b_Acc_append 4 = .ok (.iload_n 1, 1) := by decide +kernel
theorem d_Acc_append_5 : decode b_Acc_append 5 = .ok (.iaload, 1) := by decide +kernel
theorem d_Acc_append_6 : decode b_Acc_append 6 = .ok (.bipush 24, 2) := by decide +kernel
theorem d_Acc_append_8 : decode b_Acc_append 8 = .ok (.if_icmp .lt 5, 3) := by decide +kernel
theorem d_Acc_append_11 : decode b_Acc_append 11 = .ok (.iconst 0, 1) := by decide +kernel
theorem d_Acc_append_12 : decode b_Acc_append 12 = .ok (.ireturn, 1) := by decide +kernel
theorem d_Acc_append_13 : decode b_Acc_append 13 = .ok (.aload_n 0, 1) := by decide +kernel
theorem d_Acc_append_14 : decode b_Acc_append 14 = .ok (.getfield 21, 3) := by decide +kernel
theorem d_Acc_append_17 : decode b_Acc_append 17 = .ok (.iload_n 1, 1) := by decide +kernel
theorem d_Acc_append_18 : decode b_Acc_append 18 = .ok (.bipush 24, 2) := by decide +kernel
theorem d_Acc_append_20 : decode b_Acc_append 20 = .ok (.imul, 1) := by decide +kernel
theorem d_Acc_append_21 : decode b_Acc_append 21 = .ok (.aload_n 0, 1) := by decide +kernel
theorem d_Acc_append_22 : decode b_Acc_append 22 = .ok (.getfield 18, 3) := by decide +kernel
theorem d_Acc_append_25 : decode b_Acc_append 25 = .ok (.iload_n 1, 1) := by decide +kernel
theorem d_Acc_append_26 : decode b_Acc_append 26 = .ok (.iaload, 1) := by decide +kernel
theorem d_Acc_append_27 : decode b_Acc_append 27 = .ok (.iadd, 1) := by decide +kernel
theorem d_Acc_append_28 : decode b_Acc_append 28 = .ok (.iload_n 2, 1) := by decide +kernel
theorem d_Acc_append_29 : decode b_Acc_append 29 = .ok (.iastore, 1) := by decide +kernel
theorem d_Acc_append_30 : decode b_Acc_append 30 = .ok (.aload_n 0, 1) := by decide +kernel
theorem d_Acc_append_31 : decode b_Acc_append 31 = .ok (.getfield 18, 3) := by decide +kernel
theorem d_Acc_append_34 : decode b_Acc_append 34 = .ok (.iload_n 1, 1) := by decide +kernel
theorem d_Acc_append_35 : decode b_Acc_append 35 = .ok (.dup2, 1) := by decide +kernel
theorem d_Acc_append_36 : decode b_Acc_append 36 = .ok (.iaload, 1) := by decide +kernel
theorem d_Acc_append_37 : decode b_Acc_append 37 = .ok (.iconst 1, 1) := by decide +kernel
theorem d_Acc_append_38 : decode b_Acc_append 38 = .ok (.iadd, 1) := by decide +kernel
theorem d_Acc_append_39 : decode b_Acc_append 39 = .ok (.iastore, 1) := by decide +kernel
theorem d_Acc_append_40 : decode b_Acc_append 40 = .ok (.iconst 1, 1) := by decide +kernel
theorem d_Acc_append_41 : decode b_Acc_append 41 = .ok (.ireturn, 1) := by decide +kernel
theorem d_Acc_wordOf_0 : decode b_Acc_wordOf 0 = .ok (.iload_n 1, 1) := by decide +kernel
theorem d_Acc_wordOf_1 : decode b_Acc_wordOf 1 = .ok (.invokestatic 36, 3) := by decide +kernel
theorem d_Acc_wordOf_4 : decode b_Acc_wordOf 4 = .ok (.ifCond .eq 17, 3) := by decide +kernel
theorem d_Acc_wordOf_7 : decode b_Acc_wordOf 7 = .ok (.iload_n 2, 1) := by decide +kernel
theorem d_Acc_wordOf_8 : decode b_Acc_wordOf 8 = .ok (.ifCond .lt 13, 3) := by decide +kernel
theorem d_Acc_wordOf_11 : decode b_Acc_wordOf 11 = .ok (.iload_n 2, 1) := by decide +kernel
theorem d_Acc_wordOf_12 : decode b_Acc_wordOf 12 = .ok (.aload_n 0, 1) := by decide +kernel
theorem d_Acc_wordOf_13 : decode b_Acc_wordOf 13 = .ok (.getfield 18, 3) := by decide +kernel
theorem d_Acc_wordOf_16 : decode b_Acc_wordOf 16 = .ok (.iload_n 1, 1) := by decide +kernel
theorem d_Acc_wordOf_17 : decode b_Acc_wordOf 17 = .ok (.iaload, 1) := by decide +kernel
theorem d_Acc_wordOf_18 : decode b_Acc_wordOf 18 = .ok (.if_icmp .lt 5, 3) := by decide +kernel
theorem d_Acc_wordOf_21 : decode b_Acc_wordOf 21 = .ok (.iconst 0, 1) := by decide +kernel
theorem d_Acc_wordOf_22 : decode b_Acc_wordOf 22 = .ok (.ireturn, 1) := by decide +kernel
theorem d_Acc_wordOf_23 : decode b_Acc_wordOf 23 = .ok (.aload_n 0, 1) := by decide +kernel
theorem d_Acc_wordOf_24 : decode b_Acc_wordOf 24 = .ok (.getfield 21, 3) := by decide +kernel
theorem d_Acc_wordOf_27 : decode b_Acc_wordOf 27 = .ok (.iload_n 1, 1) := by decide +kernel
theorem d_Acc_wordOf_28 : decode b_Acc_wordOf 28 = .ok (.bipush 24, 2) := by decide +kernel
theorem d_Acc_wordOf_30 : decode b_Acc_wordOf 30 = .ok (.imul, 1) := by decide +kernel
theorem d_Acc_wordOf_31 : decode b_Acc_wordOf 31 = .ok (.iload_n 2, 1) := by decide +kernel
theorem d_Acc_wordOf_32 : decode b_Acc_wordOf 32 = .ok (.iadd, 1) := by decide +kernel
theorem d_Acc_wordOf_33 : decode b_Acc_wordOf 33 = .ok (.iaload, 1) := by decide +kernel
theorem d_Acc_wordOf_34 : decode b_Acc_wordOf 34 = .ok (.ireturn, 1) := by decide +kernel
theorem d_Acc_slotOf_0 : decode b_Acc_slotOf 0 = .ok (.iload_n 1, 1) := by decide +kernel
theorem d_Acc_slotOf_1 : decode b_Acc_slotOf 1 = .ok (.invokestatic 36, 3) := by decide +kernel
theorem d_Acc_slotOf_4 : decode b_Acc_slotOf 4 = .ok (.ifCond .eq 24, 3) := by decide +kernel
theorem d_Acc_slotOf_7 : decode b_Acc_slotOf 7 = .ok (.iload_n 2, 1) := by decide +kernel
theorem d_Acc_slotOf_8 : decode b_Acc_slotOf 8 = .ok (.invokestatic 40, 3) := by decide +kernel
theorem d_Acc_slotOf_11 : decode b_Acc_slotOf 11 = .ok (.ifCond .eq 17, 3) := by decide +kernel
theorem d_Acc_slotOf_14 : decode b_Acc_slotOf 14 = .ok (.aload_n 0, 1) := by decide +kernel
theorem d_Acc_slotOf_15 : decode b_Acc_slotOf 15 = .ok (.getfield 24, 3) := by decide +kernel
theorem d_Acc_slotOf_18 : decode b_Acc_slotOf 18 = .ok (.iload_n 1, 1) := by decide +kernel
theorem d_Acc_slotOf_19 : decode b_Acc_slotOf 19 = .ok (.bipush 8, 2) := by decide +kernel
theorem d_Acc_slotOf_21 : decode b_Acc_slotOf 21 = .ok (.imul, 1) := by decide +kernel
theorem d_Acc_slotOf_22 : decode b_Acc_slotOf 22 = .ok (.iload_n 2, 1) := by decide +kernel
theorem d_Acc_slotOf_23 : decode b_Acc_slotOf 23 = .ok (.iadd, 1) := by decide +kernel
theorem d_Acc_slotOf_24 : decode b_Acc_slotOf 24 = .ok (.iaload, 1) := by decide +kernel
theorem d_Acc_slotOf_25 : decode b_Acc_slotOf 25 = .ok (.goto 4, 3) := by decide +kernel
theorem d_Acc_slotOf_28 : decode b_Acc_slotOf 28 = .ok (.iconst 0, 1) := by decide +kernel
theorem d_Acc_slotOf_29 : decode b_Acc_slotOf 29 = .ok (.ireturn, 1) := by decide +kernel
theorem d_Acc_balanceOf_0 : decode b_Acc_balanceOf 0 = .ok (.iload_n 1, 1) := by decide +kernel
theorem d_Acc_balanceOf_1 : decode b_Acc_balanceOf 1 = .ok (.invokestatic 36, 3) := by decide +kernel
theorem d_Acc_balanceOf_4 : decode b_Acc_balanceOf 4 = .ok (.ifCond .eq 12, 3) := by decide +kernel
theorem d_Acc_balanceOf_7 : decode b_Acc_balanceOf 7 = .ok (.aload_n 0, 1) := by decide +kernel
theorem d_Acc_balanceOf_8 : decode b_Acc_balanceOf 8 = .ok (.getfield 9, 3) := by decide +kernel
theorem d_Acc_balanceOf_11 : decode b_Acc_balanceOf 11 = .ok (.iload_n 1, 1) := by decide +kernel
theorem d_Acc_balanceOf_12 : decode b_Acc_balanceOf 12 = .ok (.iaload, 1) := by decide +kernel
theorem d_Acc_balanceOf_13 : decode b_Acc_balanceOf 13 = .ok (.goto 4, 3) := by decide +kernel
theorem d_Acc_balanceOf_16 : decode b_Acc_balanceOf 16 = .ok (.iconst 0, 1) := by decide +kernel
theorem d_Acc_balanceOf_17 : decode b_Acc_balanceOf 17 = .ok (.ireturn, 1) := by decide +kernel
theorem d_Acc_give_0 : decode b_Acc_give 0 = .ok (.aload_n 0, 1) := by decide +kernel
theorem d_Acc_give_1 : decode b_Acc_give 1 = .ok (.getfield 9, 3) := by decide +kernel
theorem d_Acc_give_4 : decode b_Acc_give 4 = .ok (.iload_n 1, 1) := by decide +kernel
theorem d_Acc_give_5 : decode b_Acc_give 5 = .ok (.dup2, 1) := by decide +kernel
theorem d_Acc_give_6 : decode b_Acc_give 6 = .ok (.iaload, 1) := by decide +kernel
theorem d_Acc_give_7 : decode b_Acc_give 7 = .ok (.iload_n 3, 1) := by decide +kernel
theorem d_Acc_give_8 : decode b_Acc_give 8 = .ok (.isub, 1) := by decide +kernel
theorem d_Acc_give_9 : decode b_Acc_give 9 = .ok (.iastore, 1) := by decide +kernel
theorem d_Acc_give_10 : decode b_Acc_give 10 = .ok (.aload_n 0, 1) := by decide +kernel
theorem d_Acc_give_11 : decode b_Acc_give 11 = .ok (.getfield 9, 3) := by decide +kernel
theorem d_Acc_give_14 : decode b_Acc_give 14 = .ok (.iload_n 2, 1) := by decide +kernel
theorem d_Acc_give_15 : decode b_Acc_give 15 = .ok (.dup2, 1) := by decide +kernel
theorem d_Acc_give_16 : decode b_Acc_give 16 = .ok (.iaload, 1) := by decide +kernel
theorem d_Acc_give_17 : decode b_Acc_give 17 = .ok (.iload_n 3, 1) := by decide +kernel
theorem d_Acc_give_18 : decode b_Acc_give 18 = .ok (.iadd, 1) := by decide +kernel
theorem d_Acc_give_19 : decode b_Acc_give 19 = .ok (.iastore, 1) := by decide +kernel
theorem d_Acc_give_20 : decode b_Acc_give 20 = .ok (.return_, 1) := by decide +kernel
theorem d_Acc_clear_0 : decode b_Acc_clear 0 = .ok (.aload_n 0, 1) := by decide +kernel
theorem d_Acc_clear_1 : decode b_Acc_clear 1 = .ok (.getfield 9, 3) := by decide +kernel
theorem d_Acc_clear_4 : decode b_Acc_clear 4 = .ok (.iload_n 1, 1) := by decide +kernel
theorem d_Acc_clear_5 : decode b_Acc_clear 5 = .ok (.iconst 0, 1) := by decide +kernel
theorem d_Acc_clear_6 : decode b_Acc_clear 6 = .ok (.iastore, 1) := by decide +kernel
theorem d_Acc_clear_7 : decode b_Acc_clear 7 = .ok (.aload_n 0, 1) := by decide +kernel
theorem d_Acc_clear_8 : decode b_Acc_clear 8 = .ok (.getfield 15, 3) := by decide +kernel
theorem d_Acc_clear_11 : decode b_Acc_clear 11 = .ok (.iload_n 1, 1) := by decide +kernel
theorem d_Acc_clear_12 : decode b_Acc_clear 12 = .ok (.iconst 0, 1) := by decide +kernel
theorem d_Acc_clear_13 : decode b_Acc_clear 13 = .ok (.iastore, 1) := by decide +kernel
theorem d_Acc_clear_14 : decode b_Acc_clear 14 = .ok (.aload_n 0, 1) := by decide +kernel
theorem d_Acc_clear_15 : decode b_Acc_clear 15 = .ok (.getfield 18, 3) := by decide +kernel
theorem d_Acc_clear_18 : decode b_Acc_clear 18 = .ok (.iload_n 1, 1) := by decide +kernel
theorem d_Acc_clear_19 : decode b_Acc_clear 19 = .ok (.iconst 0, 1) := by decide +kernel
theorem d_Acc_clear_20 : decode b_Acc_clear 20 = .ok (.iastore, 1) := by decide +kernel
theorem d_Acc_clear_21 : decode b_Acc_clear 21 = .ok (.iconst 0, 1) := by decide +kernel
theorem d_Acc_clear_22 : decode b_Acc_clear 22 = .ok (.istore_n 2, 1) := by decide +kernel
theorem d_Acc_clear_23 : decode b_Acc_clear 23 = .ok (.iload_n 2, 1) := by decide +kernel
theorem d_Acc_clear_24 : decode b_Acc_clear 24 = .ok (.bipush 8, 2) := by decide +kernel
theorem d_Acc_clear_26 : decode b_Acc_clear 26 = .ok (.if_icmp .ge 21, 3) := by decide +kernel
theorem d_Acc_clear_29 : decode b_Acc_clear 29 = .ok (.aload_n 0, 1) := by decide +kernel
theorem d_Acc_clear_30 : decode b_Acc_clear 30 = .ok (.getfield 24, 3) := by decide +kernel
theorem d_Acc_clear_33 : decode b_Acc_clear 33 = .ok (.iload_n 1, 1) := by decide +kernel
theorem d_Acc_clear_34 : decode b_Acc_clear 34 = .ok (.bipush 8, 2) := by decide +kernel
theorem d_Acc_clear_36 : decode b_Acc_clear 36 = .ok (.imul, 1) := by decide +kernel
theorem d_Acc_clear_37 : decode b_Acc_clear 37 = .ok (.iload_n 2, 1) := by decide +kernel
theorem d_Acc_clear_38 : decode b_Acc_clear 38 = .ok (.iadd, 1) := by decide +kernel
theorem d_Acc_clear_39 : decode b_Acc_clear 39 = .ok (.iconst 0, 1) := by decide +kernel
theorem d_Acc_clear_40 : decode b_Acc_clear 40 = .ok (.iastore, 1) := by decide +kernel
theorem d_Acc_clear_41 : decode b_Acc_clear 41 = .ok (.iinc 2 1, 3) := by decide +kernel
theorem d_Acc_clear_44 : decode b_Acc_clear 44 = .ok (.goto (-21), 3) := by decide +kernel
theorem d_Acc_clear_47 : decode b_Acc_clear 47 = .ok (.return_, 1) := by decide +kernel
theorem d_Acc_isEmpty_0 : decode b_Acc_isEmpty 0 = .ok (.aload_n 0, 1) := by decide +kernel
theorem d_Acc_isEmpty_1 : decode b_Acc_isEmpty 1 = .ok (.getfield 9, 3) := by decide +kernel
theorem d_Acc_isEmpty_4 : decode b_Acc_isEmpty 4 = .ok (.iload_n 1, 1) := by decide +kernel
theorem d_Acc_isEmpty_5 : decode b_Acc_isEmpty 5 = .ok (.iaload, 1) := by decide +kernel
theorem d_Acc_isEmpty_6 : decode b_Acc_isEmpty 6 = .ok (.ifCond .ne 33, 3) := by decide +kernel
theorem d_Acc_isEmpty_9 : decode b_Acc_isEmpty 9 = .ok (.aload_n 0, 1) := by decide +kernel
theorem d_Acc_isEmpty_10 : decode b_Acc_isEmpty 10 = .ok (.getfield 15, 3) := by decide +kernel
theorem d_Acc_isEmpty_13 : decode b_Acc_isEmpty 13 = .ok (.iload_n 1, 1) := by decide +kernel
theorem d_Acc_isEmpty_14 : decode b_Acc_isEmpty 14 = .ok (.iaload, 1) := by decide +kernel
theorem d_Acc_isEmpty_15 : decode b_Acc_isEmpty 15 = .ok (.ifCond .ne 24, 3) := by decide +kernel
theorem d_Acc_isEmpty_18 : decode b_Acc_isEmpty 18 = .ok (.aload_n 0, 1) := by decide +kernel
theorem d_Acc_isEmpty_19 : decode b_Acc_isEmpty 19 = .ok (.getfield 18, 3) := by decide +kernel
theorem d_Acc_isEmpty_22 : decode b_Acc_isEmpty 22 = .ok (.iload_n 1, 1) := by decide +kernel
theorem d_Acc_isEmpty_23 : decode b_Acc_isEmpty 23 = .ok (.iaload, 1) := by decide +kernel
theorem d_Acc_isEmpty_24 : decode b_Acc_isEmpty 24 = .ok (.ifCond .ne 15, 3) := by decide +kernel
theorem d_Acc_isEmpty_27 : decode b_Acc_isEmpty 27 = .ok (.aload_n 0, 1) := by decide +kernel
theorem d_Acc_isEmpty_28 : decode b_Acc_isEmpty 28 = .ok (.iload_n 1, 1) := by decide +kernel
theorem d_Acc_isEmpty_29 : decode b_Acc_isEmpty 29 = .ok (.invokevirtual 43, 3) := by decide +kernel
theorem d_Acc_isEmpty_32 : decode b_Acc_isEmpty 32 = .ok (.ifCond .ne 7, 3) := by decide +kernel
theorem d_Acc_isEmpty_35 : decode b_Acc_isEmpty 35 = .ok (.iconst 1, 1) := by decide +kernel
theorem d_Acc_isEmpty_36 : decode b_Acc_isEmpty 36 = .ok (.goto 4, 3) := by decide +kernel
theorem d_Acc_isEmpty_39 : decode b_Acc_isEmpty 39 = .ok (.iconst 0, 1) := by decide +kernel
theorem d_Acc_isEmpty_40 : decode b_Acc_isEmpty 40 = .ok (.ireturn, 1) := by decide +kernel
theorem d_Acc_leastEmpty_0 : decode b_Acc_leastEmpty 0 = .ok (.iconst 0, 1) := by decide +kernel
theorem d_Acc_leastEmpty_1 : decode b_Acc_leastEmpty 1 = .ok (.istore_n 1, 1) := by decide +kernel
theorem d_Acc_leastEmpty_2 : decode b_Acc_leastEmpty 2 = .ok (.iload_n 1, 1) := by decide +kernel
theorem d_Acc_leastEmpty_3 : decode b_Acc_leastEmpty 3 = .ok (.bipush 16, 2) := by decide +kernel
theorem d_Acc_leastEmpty_5 : decode b_Acc_leastEmpty 5 = .ok (.if_icmp .ge 19, 3) := by decide +kernel
theorem d_Acc_leastEmpty_8 : decode b_Acc_leastEmpty 8 = .ok (.aload_n 0, 1) := by decide +kernel
theorem d_Acc_leastEmpty_9 : decode b_Acc_leastEmpty 9 = .ok (.iload_n 1, 1) := by decide +kernel
theorem d_Acc_leastEmpty_10 : decode b_Acc_leastEmpty 10 = .ok (.invokevirtual 47, 3) := by decide +kernel
theorem d_Acc_leastEmpty_13 : decode b_Acc_leastEmpty 13 = .ok (.ifCond .eq 5, 3) := by decide +kernel
theorem d_Acc_leastEmpty_16 : decode b_Acc_leastEmpty 16 = .ok (.iload_n 1, 1) := by decide +kernel
theorem d_Acc_leastEmpty_17 : decode b_Acc_leastEmpty 17 = .ok (.ireturn, 1) := by decide +kernel
theorem d_Acc_leastEmpty_18 : decode b_Acc_leastEmpty 18 = .ok (.iinc 1 1, 3) := by decide +kernel
theorem d_Acc_leastEmpty_21 : decode b_Acc_leastEmpty 21 = .ok (.goto (-19), 3) := by decide +kernel
theorem d_Acc_leastEmpty_24 : decode b_Acc_leastEmpty 24 = .ok (.iconst (-1), 1) := by decide +kernel
theorem d_Acc_leastEmpty_25 : decode b_Acc_leastEmpty 25 = .ok (.ireturn, 1) := by decide +kernel
theorem d_Acc_filledSlots_0 : decode b_Acc_filledSlots 0 = .ok (.iconst 0, 1) := by decide +kernel
theorem d_Acc_filledSlots_1 : decode b_Acc_filledSlots 1 = .ok (.istore_n 2, 1) := by decide +kernel
theorem d_Acc_filledSlots_2 : decode b_Acc_filledSlots 2 = .ok (.iconst 0, 1) := by decide +kernel
theorem d_Acc_filledSlots_3 : decode b_Acc_filledSlots 3 = .ok (.istore_n 3, 1) := by decide +kernel
theorem d_Acc_filledSlots_4 : decode b_Acc_filledSlots 4 = .ok (.iload_n 3, 1) := by decide +kernel
theorem d_Acc_filledSlots_5 : decode b_Acc_filledSlots 5 = .ok (.bipush 8, 2) := by decide +kernel
theorem d_Acc_filledSlots_7 : decode b_Acc_filledSlots 7 = .ok (.if_icmp .ge 29, 3) := by decide +kernel
theorem d_Acc_filledSlots_10 : decode b_Acc_filledSlots 10 = .ok (.aload_n 0, 1) := by decide +kernel
theorem d_Acc_filledSlots_11 : decode b_Acc_filledSlots 11 = .ok (.getfield 24, 3) := by decide +kernel
theorem d_Acc_filledSlots_14 : decode b_Acc_filledSlots 14 = .ok (.iload_n 1, 1) := by decide +kernel
theorem d_Acc_filledSlots_15 : decode b_Acc_filledSlots 15 = .ok (.bipush 8, 2) := by decide +kernel
theorem d_Acc_filledSlots_17 : decode b_Acc_filledSlots 17 = .ok (.imul, 1) := by decide +kernel
theorem d_Acc_filledSlots_18 : decode b_Acc_filledSlots 18 = .ok (.iload_n 3, 1) := by decide +kernel
theorem d_Acc_filledSlots_19 : decode b_Acc_filledSlots 19 = .ok (.iadd, 1) := by decide +kernel
theorem d_Acc_filledSlots_20 : decode b_Acc_filledSlots 20 = .ok (.iaload, 1) := by decide +kernel
theorem d_Acc_filledSlots_21 : decode b_Acc_filledSlots 21 = .ok (.ifCond .eq 9, 3) := by decide +kernel
theorem d_Acc_filledSlots_24 : decode b_Acc_filledSlots 24 = .ok (.iload_n 2, 1) := by decide +kernel
theorem d_Acc_filledSlots_25 : decode b_Acc_filledSlots 25 = .ok (.iconst 1, 1) := by decide +kernel
theorem d_Acc_filledSlots_26 : decode b_Acc_filledSlots 26 = .ok (.iload_n 3, 1) := by decide +kernel
theorem d_Acc_filledSlots_27 : decode b_Acc_filledSlots 27 = .ok (.ishl, 1) := by decide +kernel
theorem d_Acc_filledSlots_28 : decode b_Acc_filledSlots 28 = .ok (.ior, 1) := by decide +kernel
theorem d_Acc_filledSlots_29 : decode b_Acc_filledSlots 29 = .ok (.istore_n 2, 1) := by decide +kernel
theorem d_Acc_filledSlots_30 : decode b_Acc_filledSlots 30 = .ok (.iinc 3 1, 3) := by decide +kernel
theorem d_Acc_filledSlots_33 : decode b_Acc_filledSlots 33 = .ok (.goto (-29), 3) := by decide +kernel
theorem d_Acc_filledSlots_36 : decode b_Acc_filledSlots 36 = .ok (.iload_n 2, 1) := by decide +kernel
theorem d_Acc_filledSlots_37 : decode b_Acc_filledSlots 37 = .ok (.ireturn, 1) := by decide +kernel
theorem d_Acc_slotsRoot_0 : decode b_Acc_slotsRoot 0 = .ok (.aload_n 0, 1) := by decide +kernel
theorem d_Acc_slotsRoot_1 : decode b_Acc_slotsRoot 1 = .ok (.getfield 24, 3) := by decide +kernel
theorem d_Acc_slotsRoot_4 : decode b_Acc_slotsRoot 4 = .ok (.iload_n 1, 1) := by decide +kernel
theorem d_Acc_slotsRoot_5 : decode b_Acc_slotsRoot 5 = .ok (.bipush 8, 2) := by decide +kernel
theorem d_Acc_slotsRoot_7 : decode b_Acc_slotsRoot 7 = .ok (.imul, 1) := by decide +kernel
theorem d_Acc_slotsRoot_8 : decode b_Acc_slotsRoot 8 = .ok (.aload_n 0, 1) := by decide +kernel
theorem d_Acc_slotsRoot_9 : decode b_Acc_slotsRoot 9 = .ok (.iload_n 1, 1) := by decide +kernel
theorem d_Acc_slotsRoot_10 : decode b_Acc_slotsRoot 10 = .ok (.invokevirtual 43, 3) := by decide +kernel
theorem d_Acc_slotsRoot_13 : decode b_Acc_slotsRoot 13 = .ok (.iconst 3, 1) := by decide +kernel
theorem d_Acc_slotsRoot_14 : decode b_Acc_slotsRoot 14 = .ok (.invokestatic 50, 3) := by decide +kernel
theorem d_Acc_slotsRoot_17 : decode b_Acc_slotsRoot 17 = .ok (.ireturn, 1) := by decide +kernel
theorem d_Acc_codeNumber_0 : decode b_Acc_codeNumber 0 = .ok (.iconst 5, 1) := by decide +kernel
theorem d_Acc_codeNumber_1 : decode b_Acc_codeNumber 1 = .ok (.istore_n 2, 1) := by decide +kernel
theorem d_Acc_codeNumber_2 : decode b_Acc_codeNumber 2 = .ok (.iconst 0, 1) := by decide +kernel
theorem d_Acc_codeNumber_3 : decode b_Acc_codeNumber 3 = .ok (.istore_n 3, 1) := by decide +kernel
theorem d_Acc_codeNumber_4 : decode b_Acc_codeNumber 4 = .ok (.iload_n 3, 1) := by decide +kernel
theorem d_Acc_codeNumber_5 : decode b_Acc_codeNumber 5 = .ok (.aload_n 0, 1) := by decide +kernel
theorem d_Acc_codeNumber_6 : decode b_Acc_codeNumber 6 = .ok (.getfield 18, 3) := by decide +kernel
theorem d_Acc_codeNumber_9 : decode b_Acc_codeNumber 9 = .ok (.iload_n 1, 1) := by decide +kernel
theorem d_Acc_codeNumber_10 : decode b_Acc_codeNumber 10 = .ok (.iaload, 1) := by decide +kernel
theorem d_Acc_codeNumber_11 : decode b_Acc_codeNumber 11 = .ok (.if_icmp .ge 25, 3) := by decide +kernel
theorem d_Acc_codeNumber_14 : decode b_Acc_codeNumber 14 = .ok (.iload_n 2, 1) := by decide +kernel
theorem d_Acc_codeNumber_15 : decode b_Acc_codeNumber 15 = .ok (.aload_n 0, 1) := by decide +kernel
theorem d_Acc_codeNumber_16 : decode b_Acc_codeNumber 16 = .ok (.getfield 21, 3) := by decide +kernel
theorem d_Acc_codeNumber_19 : decode b_Acc_codeNumber 19 = .ok (.iload_n 1, 1) := by decide +kernel
theorem d_Acc_codeNumber_20 : decode b_Acc_codeNumber 20 = .ok (.bipush 24, 2) := by decide +kernel
theorem d_Acc_codeNumber_22 : decode b_Acc_codeNumber 22 = .ok (.imul, 1) := by decide +kernel
theorem d_Acc_codeNumber_23 : decode b_Acc_codeNumber 23 = .ok (.iload_n 3, 1) := by decide +kernel
theorem d_Acc_codeNumber_24 : decode b_Acc_codeNumber 24 = .ok (.iadd, 1) := by decide +kernel
theorem d_Acc_codeNumber_25 : decode b_Acc_codeNumber 25 = .ok (.iaload, 1) := by decide +kernel
theorem d_Acc_codeNumber_26 : decode b_Acc_codeNumber 26 = .ok (.invokestatic 56, 3) := by decide +kernel
theorem d_Acc_codeNumber_29 : decode b_Acc_codeNumber 29 = .ok (.istore_n 2, 1) := by decide +kernel
theorem d_Acc_codeNumber_30 : decode b_Acc_codeNumber 30 = .ok (.iinc 3 1, 3) := by decide +kernel
theorem d_Acc_codeNumber_33 : decode b_Acc_codeNumber 33 = .ok (.goto (-29), 3) := by decide +kernel
theorem d_Acc_codeNumber_36 : decode b_Acc_codeNumber 36 = .ok (.iload_n 2, 1) := by decide +kernel
theorem d_Acc_codeNumber_37 : decode b_Acc_codeNumber 37 = .ok (.ireturn, 1) := by decide +kernel
theorem d_Acc_valueOf_0 : decode b_Acc_valueOf 0 = .ok (.iconst 4, 1) := by decide +kernel
theorem d_Acc_valueOf_1 : decode b_Acc_valueOf 1 = .ok (.aload_n 0, 1) := by decide +kernel
theorem d_Acc_valueOf_2 : decode b_Acc_valueOf 2 = .ok (.getfield 9, 3) := by decide +kernel
theorem d_Acc_valueOf_5 : decode b_Acc_valueOf 5 = .ok (.iload_n 1, 1) := by decide +kernel
theorem d_Acc_valueOf_6 : decode b_Acc_valueOf 6 = .ok (.iaload, 1) := by decide +kernel
theorem d_Acc_valueOf_7 : decode b_Acc_valueOf 7 = .ok (.invokestatic 56, 3) := by decide +kernel
theorem d_Acc_valueOf_10 : decode b_Acc_valueOf 10 = .ok (.istore_n 2, 1) := by decide +kernel
theorem d_Acc_valueOf_11 : decode b_Acc_valueOf 11 = .ok (.iload_n 2, 1) := by decide +kernel
theorem d_Acc_valueOf_12 : decode b_Acc_valueOf 12 = .ok (.aload_n 0, 1) := by decide +kernel
theorem d_Acc_valueOf_13 : decode b_Acc_valueOf 13 = .ok (.getfield 15, 3) := by decide +kernel
theorem d_Acc_valueOf_16 : decode b_Acc_valueOf 16 = .ok (.iload_n 1, 1) := by decide +kernel
theorem d_Acc_valueOf_17 : decode b_Acc_valueOf 17 = .ok (.iaload, 1) := by decide +kernel
theorem d_Acc_valueOf_18 : decode b_Acc_valueOf 18 = .ok (.invokestatic 56, 3) := by decide +kernel
theorem d_Acc_valueOf_21 : decode b_Acc_valueOf 21 = .ok (.istore_n 2, 1) := by decide +kernel
theorem d_Acc_valueOf_22 : decode b_Acc_valueOf 22 = .ok (.iload_n 2, 1) := by decide +kernel
theorem d_Acc_valueOf_23 : decode b_Acc_valueOf 23 = .ok (.aload_n 0, 1) := by decide +kernel
theorem d_Acc_valueOf_24 : decode b_Acc_valueOf 24 = .ok (.iload_n 1, 1) := by decide +kernel
theorem d_Acc_valueOf_25 : decode b_Acc_valueOf 25 = .ok (.invokevirtual 60, 3) := by decide +kernel
theorem d_Acc_valueOf_28 : decode b_Acc_valueOf 28 = .ok (.invokestatic 56, 3) := by decide +kernel
theorem d_Acc_valueOf_31 : decode b_Acc_valueOf 31 = .ok (.istore_n 2, 1) := by decide +kernel
theorem d_Acc_valueOf_32 : decode b_Acc_valueOf 32 = .ok (.iload_n 2, 1) := by decide +kernel
theorem d_Acc_valueOf_33 : decode b_Acc_valueOf 33 = .ok (.aload_n 0, 1) := by decide +kernel
theorem d_Acc_valueOf_34 : decode b_Acc_valueOf 34 = .ok (.iload_n 1, 1) := by decide +kernel
theorem d_Acc_valueOf_35 : decode b_Acc_valueOf 35 = .ok (.invokevirtual 63, 3) := by decide +kernel
theorem d_Acc_valueOf_38 : decode b_Acc_valueOf 38 = .ok (.invokestatic 56, 3) := by decide +kernel
theorem d_Acc_valueOf_41 : decode b_Acc_valueOf 41 = .ok (.ireturn, 1) := by decide +kernel
theorem d_Acc_rootOfAll_0 : decode b_Acc_rootOfAll 0 = .ok (.iconst 0, 1) := by decide +kernel
theorem d_Acc_rootOfAll_1 : decode b_Acc_rootOfAll 1 = .ok (.istore_n 1, 1) := by decide +kernel
theorem d_Acc_rootOfAll_2 : decode b_Acc_rootOfAll 2 = .ok (.iconst 0, 1) := by decide +kernel
theorem d_Acc_rootOfAll_3 : decode b_Acc_rootOfAll 3 = .ok (.istore_n 2, 1) := by decide +kernel
theorem d_Acc_rootOfAll_4 : decode b_Acc_rootOfAll 4 = .ok (.iload_n 2, 1) := by decide +kernel
theorem d_Acc_rootOfAll_5 : decode b_Acc_rootOfAll 5 = .ok (.bipush 16, 2) := by decide +kernel
theorem d_Acc_rootOfAll_7 : decode b_Acc_rootOfAll 7 = .ok (.if_icmp .ge 34, 3) := by decide +kernel
theorem d_Acc_rootOfAll_10 : decode b_Acc_rootOfAll 10 = .ok (.aload_n 0, 1) := by decide +kernel
theorem d_Acc_rootOfAll_11 : decode b_Acc_rootOfAll 11 = .ok (.iload_n 2, 1) := by decide +kernel
theorem d_Acc_rootOfAll_12 : decode b_Acc_rootOfAll 12 = .ok (.invokevirtual 47, 3) := by decide +kernel
theorem d_Acc_rootOfAll_15 : decode b_Acc_rootOfAll 15 = .ok (.ifCond .ne 20, 3) := by decide +kernel
theorem d_Acc_rootOfAll_18 : decode b_Acc_rootOfAll 18 = .ok (.iload_n 1, 1) := by decide +kernel
theorem d_Acc_rootOfAll_19 : decode b_Acc_rootOfAll 19 = .ok (.iconst 1, 1) := by decide +kernel
theorem d_Acc_rootOfAll_20 : decode b_Acc_rootOfAll 20 = .ok (.iload_n 2, 1) := by decide +kernel
theorem d_Acc_rootOfAll_21 : decode b_Acc_rootOfAll 21 = .ok (.ishl, 1) := by decide +kernel
theorem d_Acc_rootOfAll_22 : decode b_Acc_rootOfAll 22 = .ok (.ior, 1) := by decide +kernel
theorem d_Acc_rootOfAll_23 : decode b_Acc_rootOfAll 23 = .ok (.istore_n 1, 1) := by decide +kernel
theorem d_Acc_rootOfAll_24 : decode b_Acc_rootOfAll 24 = .ok (.aload_n 0, 1) := by decide +kernel
theorem d_Acc_rootOfAll_25 : decode b_Acc_rootOfAll 25 = .ok (.getfield 27, 3) := by decide +kernel
theorem d_Acc_rootOfAll_28 : decode b_Acc_rootOfAll 28 = .ok (.iload_n 2, 1) := by decide +kernel
theorem d_Acc_rootOfAll_29 : decode b_Acc_rootOfAll 29 = .ok (.aload_n 0, 1) := by decide +kernel
theorem d_Acc_rootOfAll_30 : decode b_Acc_rootOfAll 30 = .ok (.iload_n 2, 1) := by decide +kernel
theorem d_Acc_rootOfAll_31 : decode b_Acc_rootOfAll 31 = .ok (.invokevirtual 66, 3) := by decide +kernel
theorem d_Acc_rootOfAll_34 : decode b_Acc_rootOfAll 34 = .ok (.iastore, 1) := by decide +kernel
theorem d_Acc_rootOfAll_35 : decode b_Acc_rootOfAll 35 = .ok (.iinc 2 1, 3) := by decide +kernel
theorem d_Acc_rootOfAll_38 : decode b_Acc_rootOfAll 38 = .ok (.goto (-34), 3) := by decide +kernel
theorem d_Acc_rootOfAll_41 : decode b_Acc_rootOfAll 41 = .ok (.aload_n 0, 1) := by decide +kernel
theorem d_Acc_rootOfAll_42 : decode b_Acc_rootOfAll 42 = .ok (.getfield 27, 3) := by decide +kernel
theorem d_Acc_rootOfAll_45 : decode b_Acc_rootOfAll 45 = .ok (.iconst 0, 1) := by decide +kernel
theorem d_Acc_rootOfAll_46 : decode b_Acc_rootOfAll 46 = .ok (.iload_n 1, 1) := by decide +kernel
theorem d_Acc_rootOfAll_47 : decode b_Acc_rootOfAll 47 = .ok (.iconst 4, 1) := by decide +kernel
theorem d_Acc_rootOfAll_48 : decode b_Acc_rootOfAll 48 = .ok (.invokestatic 50, 3) := by decide +kernel
theorem d_Acc_rootOfAll_51 : decode b_Acc_rootOfAll 51 = .ok (.ireturn, 1) := by decide +kernel
theorem d_Com_mix_0 : decode b_Com_mix 0 = .ok (.iload_n 0, 1) := by decide +kernel
theorem d_Com_mix_1 : decode b_Com_mix 1 = .ok (.ldc 7, 2) := by decide +kernel
theorem d_Com_mix_3 : decode b_Com_mix 3 = .ok (.imul, 1) := by decide +kernel
theorem d_Com_mix_4 : decode b_Com_mix 4 = .ok (.iload_n 1, 1) := by decide +kernel
theorem d_Com_mix_5 : decode b_Com_mix 5 = .ok (.iadd, 1) := by decide +kernel
theorem d_Com_mix_6 : decode b_Com_mix 6 = .ok (.istore_n 2, 1) := by decide +kernel
theorem d_Com_mix_7 : decode b_Com_mix 7 = .ok (.iload_n 2, 1) := by decide +kernel
theorem d_Com_mix_8 : decode b_Com_mix 8 = .ok (.iload_n 2, 1) := by decide +kernel
theorem d_Com_mix_9 : decode b_Com_mix 9 = .ok (.bipush 13, 2) := by decide +kernel
theorem d_Com_mix_11 : decode b_Com_mix 11 = .ok (.iushr, 1) := by decide +kernel
theorem d_Com_mix_12 : decode b_Com_mix 12 = .ok (.ixor, 1) := by decide +kernel
theorem d_Com_mix_13 : decode b_Com_mix 13 = .ok (.ireturn, 1) := by decide +kernel
theorem d_Com_rootOfMap_0 : decode b_Com_rootOfMap 0 = .ok (.aload_n 0, 1) := by decide +kernel
theorem d_Com_rootOfMap_1 : decode b_Com_rootOfMap 1 = .ok (.iload_n 1, 1) := by decide +kernel
theorem d_Com_rootOfMap_2 : decode b_Com_rootOfMap 2 = .ok (.iload_n 2, 1) := by decide +kernel
theorem d_Com_rootOfMap_3 : decode b_Com_rootOfMap 3 = .ok (.iconst 0, 1) := by decide +kernel
theorem d_Com_rootOfMap_4 : decode b_Com_rootOfMap 4 = .ok (.iload_n 3, 1) := by decide +kernel
theorem d_Com_rootOfMap_5 : decode b_Com_rootOfMap 5 = .ok (.invokestatic 8, 3) := by decide +kernel
theorem d_Com_rootOfMap_8 : decode b_Com_rootOfMap 8 = .ok (.ireturn, 1) := by decide +kernel
theorem d_Com_rootOfPart_0 : decode b_Com_rootOfPart 0 = .ok (.iconst (-1), 1) := by decide +kernel
theorem d_Com_rootOfPart_1 : decode b_Com_rootOfPart 1 = .ok (.istore 5, 2) := by decide +kernel
theorem d_Com_rootOfPart_3 : decode b_Com_rootOfPart 3 = .ok (.iconst (-1), 1) := by decide +kernel
theorem d_Com_rootOfPart_4 : decode b_Com_rootOfPart 4 = .ok (.istore 6, 2) := by decide +kernel
theorem d_Com_rootOfPart_6 : decode b_Com_rootOfPart 6 = .ok (.iload_n 3, 1) := by decide +kernel
theorem d_Com_rootOfPart_7 : decode b_Com_rootOfPart 7 = .ok (.istore 7, 2) := by decide +kernel
theorem d_Com_rootOfPart_9 : decode b_Com_rootOfPart 9 = .ok (.iload 7, 2) := by decide +kernel
theorem d_Com_rootOfPart_11 : decode b_Com_rootOfPart 11 = .ok (.iload_n 3, 1) := by decide +kernel
theorem d_Com_rootOfPart_12 : decode b_Com_rootOfPart 12 = .ok (.iconst 1, 1) := by decide +kernel
theorem d_Com_rootOfPart_13 : decode b_Com_rootOfPart 13 = .ok (.iload 4, 2) := by decide +kernel
theorem d_Com_rootOfPart_15 : decode b_Com_rootOfPart 15 = .ok (.ishl, 1) := by decide +kernel
theorem d_Com_rootOfPart_16 : decode b_Com_rootOfPart 16 = .ok (.iadd, 1) := by decide +kernel
theorem d_Com_rootOfPart_17 : decode b_Com_rootOfPart 17 = .ok (.if_icmp .ge 36, 3) := by decide +kernel
theorem d_Com_rootOfPart_20 : decode b_Com_rootOfPart 20 = .ok (.iload_n 2, 1) := by decide +kernel
theorem d_Com_rootOfPart_21 : decode b_Com_rootOfPart 21 = .ok (.iload 7, 2) := by decide +kernel
theorem d_Com_rootOfPart_23 : decode b_Com_rootOfPart 23 = .ok (.iushr, 1) := by decide +kernel
theorem d_Com_rootOfPart_24 : decode b_Com_rootOfPart 24 = .ok (.iconst 1, 1) := by decide +kernel
theorem d_Com_rootOfPart_25 : decode b_Com_rootOfPart 25 = .ok (.iand, 1) := by decide +kernel
theorem d_Com_rootOfPart_26 : decode b_Com_rootOfPart 26 = .ok (.ifCond .eq 21, 3) := by decide +kernel
theorem d_Com_rootOfPart_29 : decode b_Com_rootOfPart 29 = .ok (.iload 5, 2) := by decide +kernel
theorem d_Com_rootOfPart_31 : decode b_Com_rootOfPart 31 = .ok (.ifCond .ge 8, 3) := by decide +kernel
theorem d_Com_rootOfPart_34 : decode b_Com_rootOfPart 34 = .ok (.iload 7, 2) := by decide +kernel
theorem d_Com_rootOfPart_36 : decode b_Com_rootOfPart 36 = .ok (.goto 5, 3) := by decide +kernel
theorem d_Com_rootOfPart_39 : decode b_Com_rootOfPart 39 = .ok (.iload 5, 2) := by decide +kernel
theorem d_Com_rootOfPart_41 : decode b_Com_rootOfPart 41 = .ok (.istore 5, 2) := by decide +kernel
theorem d_Com_rootOfPart_43 : decode b_Com_rootOfPart 43 = .ok (.iload 7, 2) := by decide +kernel
theorem d_Com_rootOfPart_45 : decode b_Com_rootOfPart 45 = .ok (.istore 6, 2) := by decide +kernel
theorem d_Com_rootOfPart_47 : decode b_Com_rootOfPart 47 = .ok (.iinc 7 1, 3) := by decide +kernel
theorem d_Com_rootOfPart_50 : decode b_Com_rootOfPart 50 = .ok (.goto (-41), 3) := by decide +kernel
theorem d_Com_rootOfPart_53 : decode b_Com_rootOfPart 53 = .ok (.iload 5, 2) := by decide +kernel
theorem d_Com_rootOfPart_55 : decode b_Com_rootOfPart 55 = .ok (.ifCond .ge 5, 3) := by decide +kernel
theorem d_Com_rootOfPart_58 : decode b_Com_rootOfPart 58 = .ok (.iconst 0, 1) := by decide +kernel
theorem d_Com_rootOfPart_59 : decode b_Com_rootOfPart 59 = .ok (.ireturn, 1) := by decide +kernel
theorem d_Com_rootOfPart_60 : decode b_Com_rootOfPart 60 = .ok (.iload 4, 2) := by decide +kernel
theorem d_Com_rootOfPart_62 : decode b_Com_rootOfPart 62 = .ok (.ifCond .le 10, 3) := by decide +kernel
theorem d_Com_rootOfPart_65 : decode b_Com_rootOfPart 65 = .ok (.iload 5, 2) := by decide +kernel
theorem d_Com_rootOfPart_67 : decode b_Com_rootOfPart 67 = .ok (.iload 6, 2) := by decide +kernel
theorem d_Com_rootOfPart_69 : decode b_Com_rootOfPart 69 = .ok (.if_icmp .ne 26, 3) := by decide +kernel
theorem d_Com_rootOfPart_72 : decode b_Com_rootOfPart 72 = .ok (.iconst 1, 1) := by decide +kernel
theorem d_Com_rootOfPart_73 : decode b_Com_rootOfPart 73 = .ok (.iconst 1, 1) := by decide +kernel
theorem d_Com_rootOfPart_74 : decode b_Com_rootOfPart 74 = .ok (.iload 4, 2) := by decide +kernel
theorem d_Com_rootOfPart_76 : decode b_Com_rootOfPart 76 = .ok (.ishl, 1) := by decide +kernel
theorem d_Com_rootOfPart_77 : decode b_Com_rootOfPart 77 = .ok (.iload 5, 2) := by decide +kernel
theorem d_Com_rootOfPart_79 : decode b_Com_rootOfPart 79 = .ok (.iadd, 1) := by decide +kernel
theorem d_Com_rootOfPart_80 : decode b_Com_rootOfPart 80 = .ok (.iload_n 3, 1) := by decide +kernel
theorem d_Com_rootOfPart_81 : decode b_Com_rootOfPart 81 = .ok (.isub, 1) := by decide +kernel
theorem d_Com_rootOfPart_82 : decode b_Com_rootOfPart 82 = .ok (.invokestatic 14, 3) := by decide +kernel
theorem d_Com_rootOfPart_85 : decode b_Com_rootOfPart 85 = .ok (.aload_n 0, 1) := by decide +kernel
theorem d_Com_rootOfPart_86 : decode b_Com_rootOfPart 86 = .ok (.iload_n 1, 1) := by decide +kernel
theorem d_Com_rootOfPart_87 : decode b_Com_rootOfPart 87 = .ok (.iload 5, 2) := by decide +kernel
theorem d_Com_rootOfPart_89 : decode b_Com_rootOfPart 89 = .ok (.iadd, 1) := by decide +kernel
theorem d_Com_rootOfPart_90 : decode b_Com_rootOfPart 90 = .ok (.iaload, 1) := by decide +kernel
theorem d_Com_rootOfPart_91 : decode b_Com_rootOfPart 91 = .ok (.invokestatic 14, 3) := by decide +kernel
theorem d_Com_rootOfPart_94 : decode b_Com_rootOfPart 94 = .ok (.ireturn, 1) := by decide +kernel
theorem d_Com_rootOfPart_95 : decode b_Com_rootOfPart 95 = .ok (.iconst 1, 1) := by decide +kernel
theorem d_Com_rootOfPart_96 : decode b_Com_rootOfPart 96 = .ok (.istore 7, 2) := by decide +kernel
theorem d_Com_rootOfPart_98 : decode b_Com_rootOfPart 98 = .ok (.iload 7, 2) := by decide +kernel
theorem d_Com_rootOfPart_100 : decode b_Com_rootOfPart 100 = .ok (.iload 4, 2) := by decide +kernel
theorem d_Com_rootOfPart_102 : decode b_Com_rootOfPart 102 = .ok (.if_icmp .ge 22, 3) := by decide +kernel
theorem d_Com_rootOfPart_105 : decode b_Com_rootOfPart 105 = .ok (.iload 5, 2) := by decide +kernel
theorem d_Com_rootOfPart_107 : decode b_Com_rootOfPart 107 = .ok (.iload 7, 2) := by decide +kernel
theorem d_Com_rootOfPart_109 : decode b_Com_rootOfPart 109 = .ok (.ishr, 1) := by decide +kernel
theorem d_Com_rootOfPart_110 : decode b_Com_rootOfPart 110 = .ok (.iload 6, 2) := by decide +kernel
theorem d_Com_rootOfPart_112 : decode b_Com_rootOfPart 112 = .ok (.iload 7, 2) := by decide +kernel
theorem d_Com_rootOfPart_114 : decode b_Com_rootOfPart 114 = .ok (.ishr, 1) := by decide +kernel
theorem d_Com_rootOfPart_115 : decode b_Com_rootOfPart 115 = .ok (.if_icmp .eq 9, 3) := by decide +kernel
theorem d_Com_rootOfPart_118 : decode b_Com_rootOfPart 118 = .ok (.iinc 7 1, 3) := by decide +kernel
theorem d_Com_rootOfPart_121 : decode b_Com_rootOfPart 121 = .ok (.goto (-23), 3) := by decide +kernel
theorem d_Com_rootOfPart_124 : decode b_Com_rootOfPart 124 = .ok (.iload 7, 2) := by decide +kernel
theorem d_Com_rootOfPart_126 : decode b_Com_rootOfPart 126 = .ok (.iload 4, 2) := by decide +kernel
theorem d_Com_rootOfPart_128 : decode b_Com_rootOfPart 128 = .ok (.if_icmp .ge 50, 3) := by decide +kernel
theorem d_Com_rootOfPart_131 : decode b_Com_rootOfPart 131 = .ok (.iload 5, 2) := by decide +kernel
theorem d_Com_rootOfPart_133 : decode b_Com_rootOfPart 133 = .ok (.iload 7, 2) := by decide +kernel
theorem d_Com_rootOfPart_135 : decode b_Com_rootOfPart 135 = .ok (.ishr, 1) := by decide +kernel
theorem d_Com_rootOfPart_136 : decode b_Com_rootOfPart 136 = .ok (.iload 7, 2) := by decide +kernel
theorem d_Com_rootOfPart_138 : decode b_Com_rootOfPart 138 = .ok (.ishl, 1) := by decide +kernel
theorem d_Com_rootOfPart_139 : decode b_Com_rootOfPart 139 = .ok (.istore 8, 2) := by decide +kernel
theorem d_Com_rootOfPart_141 : decode b_Com_rootOfPart 141 = .ok (.iconst 1, 1) := by decide +kernel
theorem d_Com_rootOfPart_142 : decode b_Com_rootOfPart 142 = .ok (.iload 4, 2) := by decide +kernel
theorem d_Com_rootOfPart_144 : decode b_Com_rootOfPart 144 = .ok (.iload 7, 2) := by decide +kernel
theorem d_Com_rootOfPart_146 : decode b_Com_rootOfPart 146 = .ok (.isub, 1) := by decide +kernel
theorem d_Com_rootOfPart_147 : decode b_Com_rootOfPart 147 = .ok (.ishl, 1) := by decide +kernel
theorem d_Com_rootOfPart_148 : decode b_Com_rootOfPart 148 = .ok (.iload 8, 2) := by decide +kernel
theorem d_Com_rootOfPart_150 : decode b_Com_rootOfPart 150 = .ok (.iload_n 3, 1) := by decide +kernel
theorem d_Com_rootOfPart_151 : decode b_Com_rootOfPart 151 = .ok (.isub, 1) := by decide +kernel
theorem d_Com_rootOfPart_152 : decode b_Com_rootOfPart 152 = .ok (.iload 7, 2) := by decide +kernel
theorem d_Com_rootOfPart_154 : decode b_Com_rootOfPart 154 = .ok (.ishr, 1) := by decide +kernel
theorem d_Com_rootOfPart_155 : decode b_Com_rootOfPart 155 = .ok (.iadd, 1) := by decide +kernel
theorem d_Com_rootOfPart_156 : decode b_Com_rootOfPart 156 = .ok (.istore 9, 2) := by decide +kernel
theorem d_Com_rootOfPart_158 : decode b_Com_rootOfPart 158 = .ok (.iconst 2, 1) := by decide +kernel
theorem d_Com_rootOfPart_159 : decode b_Com_rootOfPart 159 = .ok (.iload 9, 2) := by decide +kernel
theorem d_Com_rootOfPart_161 : decode b_Com_rootOfPart 161 = .ok (.invokestatic 14, 3) := by decide +kernel
theorem d_Com_rootOfPart_164 : decode b_Com_rootOfPart 164 = .ok (.aload_n 0, 1) := by decide +kernel
theorem d_Com_rootOfPart_165 : decode b_Com_rootOfPart 165 = .ok (.iload_n 1, 1) := by decide +kernel
theorem d_Com_rootOfPart_166 : decode b_Com_rootOfPart 166 = .ok (.iload_n 2, 1) := by decide +kernel
theorem d_Com_rootOfPart_167 : decode b_Com_rootOfPart 167 = .ok (.iload 8, 2) := by decide +kernel
theorem d_Com_rootOfPart_169 : decode b_Com_rootOfPart 169 = .ok (.iload 7, 2) := by decide +kernel
theorem d_Com_rootOfPart_171 : decode b_Com_rootOfPart 171 = .ok (.invokestatic 8, 3) := by decide +kernel
theorem d_Com_rootOfPart_174 : decode b_Com_rootOfPart 174 = .ok (.invokestatic 14, 3) := by decide +kernel
theorem d_Com_rootOfPart_177 : decode b_Com_rootOfPart 177 = .ok (.ireturn, 1) := by decide +kernel
theorem d_Com_rootOfPart_178 : decode b_Com_rootOfPart 178 = .ok (.aload_n 0, 1) := by decide +kernel
theorem d_Com_rootOfPart_179 : decode b_Com_rootOfPart 179 = .ok (.iload_n 1, 1) := by decide +kernel
theorem d_Com_rootOfPart_180 : decode b_Com_rootOfPart 180 = .ok (.iload_n 2, 1) := by decide +kernel
theorem d_Com_rootOfPart_181 : decode b_Com_rootOfPart 181 = .ok (.iload_n 3, 1) := by decide +kernel
theorem d_Com_rootOfPart_182 : decode b_Com_rootOfPart 182 = .ok (.iload 4, 2) := by decide +kernel
theorem d_Com_rootOfPart_184 : decode b_Com_rootOfPart 184 = .ok (.iconst 1, 1) := by decide +kernel
theorem d_Com_rootOfPart_185 : decode b_Com_rootOfPart 185 = .ok (.isub, 1) := by decide +kernel
theorem d_Com_rootOfPart_186 : decode b_Com_rootOfPart 186 = .ok (.invokestatic 8, 3) := by decide +kernel
theorem d_Com_rootOfPart_189 : decode b_Com_rootOfPart 189 = .ok (.istore 8, 2) := by decide +kernel
theorem d_Com_rootOfPart_191 : decode b_Com_rootOfPart 191 = .ok (.aload_n 0, 1) := by decide +kernel
theorem d_Com_rootOfPart_192 : decode b_Com_rootOfPart 192 = .ok (.iload_n 1, 1) := by decide +kernel
theorem d_Com_rootOfPart_193 : decode b_Com_rootOfPart 193 = .ok (.iload_n 2, 1) := by decide +kernel
theorem d_Com_rootOfPart_194 : decode b_Com_rootOfPart 194 = .ok (.iload_n 3, 1) := by decide +kernel
theorem d_Com_rootOfPart_195 : decode b_Com_rootOfPart 195 = .ok (.iconst 1, 1) := by decide +kernel
theorem d_Com_rootOfPart_196 : decode b_Com_rootOfPart 196 = .ok (.iload 4, 2) := by decide +kernel
theorem d_Com_rootOfPart_198 : decode b_Com_rootOfPart 198 = .ok (.iconst 1, 1) := by decide +kernel
theorem d_Com_rootOfPart_199 : decode b_Com_rootOfPart 199 = .ok (.isub, 1) := by decide +kernel
theorem d_Com_rootOfPart_200 : decode b_Com_rootOfPart 200 = .ok (.ishl, 1) := by decide +kernel
theorem d_Com_rootOfPart_201 : decode b_Com_rootOfPart 201 = .ok (.iadd, 1) := by decide +kernel
theorem d_Com_rootOfPart_202 : decode b_Com_rootOfPart 202 = .ok (.iload 4, 2) := by decide +kernel
theorem d_Com_rootOfPart_204 : decode b_Com_rootOfPart 204 = .ok (.iconst 1, 1) := by decide +kernel
theorem d_Com_rootOfPart_205 : decode b_Com_rootOfPart 205 = .ok (.isub, 1) := by decide +kernel
theorem d_Com_rootOfPart_206 : decode b_Com_rootOfPart 206 = .ok (.invokestatic 8, 3) := by decide +kernel
theorem d_Com_rootOfPart_209 : decode b_Com_rootOfPart 209 = .ok (.istore 9, 2) := by decide +kernel
theorem d_Com_rootOfPart_211 : decode b_Com_rootOfPart 211 = .ok (.iconst 3, 1) := by decide +kernel
theorem d_Com_rootOfPart_212 : decode b_Com_rootOfPart 212 = .ok (.iload 8, 2) := by decide +kernel
theorem d_Com_rootOfPart_214 : decode b_Com_rootOfPart 214 = .ok (.invokestatic 14, 3) := by decide +kernel
theorem d_Com_rootOfPart_217 : decode b_Com_rootOfPart 217 = .ok (.iload 9, 2) := by decide +kernel
theorem d_Com_rootOfPart_219 : decode b_Com_rootOfPart 219 = .ok (.invokestatic 14, 3) := by decide +kernel
theorem d_Com_rootOfPart_222 : decode b_Com_rootOfPart 222 = .ok (.ireturn, 1) := by decide +kernel
theorem d_Frm_init_0 : decode b_Frm_init 0 = .ok (.aload_n 0, 1) := by decide +kernel
theorem d_Frm_init_1 : decode b_Frm_init 1 = .ok (.invokespecial 3, 3) := by decide +kernel
theorem d_Frm_init_4 : decode b_Frm_init 4 = .ok (.aload_n 0, 1) := by decide +kernel
theorem d_Frm_init_5 : decode b_Frm_init 5 = .ok (.bipush 12, 2) := by decide +kernel
theorem d_Frm_init_7 : decode b_Frm_init 7 = .ok (.newarray .int, 2) := by decide +kernel
theorem d_Frm_init_9 : decode b_Frm_init 9 = .ok (.putfield 9, 3) := by decide +kernel
theorem d_Frm_init_12 : decode b_Frm_init 12 = .ok (.aload_n 0, 1) := by decide +kernel
theorem d_Frm_init_13 : decode b_Frm_init 13 = .ok (.new 15, 3) := by decide +kernel
theorem d_Frm_init_16 : decode b_Frm_init 16 = .ok (.dup, 1) := by decide +kernel
theorem d_Frm_init_17 : decode b_Frm_init 17 = .ok (.invokespecial 17, 3) := by decide +kernel
theorem d_Frm_init_20 : decode b_Frm_init 20 = .ok (.putfield 18, 3) := by decide +kernel
theorem d_Frm_init_23 : decode b_Frm_init 23 = .ok (.return_, 1) := by decide +kernel
end
section
theorem d_Frm_start_0 : decode b_Frm_start 0 = .ok (.aload_n 0, 1) := by decide +kernel
theorem d_Frm_start_1 : decode b_Frm_start 1 = .ok (.iload_n 1, 1) := by decide +kernel
theorem d_Frm_start_2 : decode b_Frm_start 2 = .ok (.putfield 22, 3) := by decide +kernel
theorem d_Frm_start_5 : decode b_Frm_start 5 = .ok (.aload_n 0, 1) := by decide +kernel
theorem d_Frm_start_6 : decode b_Frm_start 6 = .ok (.iload_n 2, 1) := by decide +kernel
theorem d_Frm_start_7 : decode b_Frm_start 7 = .ok (.putfield 26, 3) := by decide +kernel
theorem d_Frm_start_10 : decode b_Frm_start 10 = .ok (.aload_n 0, 1) := by decide +kernel
theorem d_Frm_start_11 : decode b_Frm_start 11 = .ok (.iconst 0, 1) := by decide +kernel
theorem d_Frm_start_12 : decode b_Frm_start 12 = .ok (.putfield 29, 3) := by decide +kernel
theorem d_Frm_start_15 : decode b_Frm_start 15 = .ok (.aload_n 0, 1) := by decide +kernel
theorem d_Frm_start_16 : decode b_Frm_start 16 = .ok (.iload_n 3, 1) := by decide +kernel
theorem d_Frm_start_17 : decode b_Frm_start 17 = .ok (.putfield 32, 3) := by decide +kernel
theorem d_Frm_start_20 : decode b_Frm_start 20 = .ok (.aload_n 0, 1) := by decide +kernel
theorem d_Frm_start_21 : decode b_Frm_start 21 = .ok (.iload 4, 2) := by decide +kernel
theorem d_Frm_start_23 : decode b_Frm_start 23 = .ok (.putfield 35, 3) := by decide +kernel
theorem d_Frm_start_26 : decode b_Frm_start 26 = .ok (.aload_n 0, 1) := by decide +kernel
theorem d_Frm_start_27 : decode b_Frm_start 27 = .ok (.iload 5, 2) := by decide +kernel
theorem d_Frm_start_29 : decode b_Frm_start 29 = .ok (.putfield 38, 3) := by decide +kernel
theorem d_Frm_start_32 : decode b_Frm_start 32 = .ok (.aload_n 0, 1) := by decide +kernel
theorem d_Frm_start_33 : decode b_Frm_start 33 = .ok (.iload 6, 2) := by decide +kernel
theorem d_Frm_start_35 : decode b_Frm_start 35 = .ok (.putfield 41, 3) := by decide +kernel
theorem d_Frm_start_38 : decode b_Frm_start 38 = .ok (.aload_n 0, 1) := by decide +kernel
theorem d_Frm_start_39 : decode b_Frm_start 39 = .ok (.iconst 0, 1) := by decide +kernel
theorem d_Frm_start_40 : decode b_Frm_start 40 = .ok (.putfield 44, 3) := by decide +kernel
theorem d_Frm_start_43 : decode b_Frm_start 43 = .ok (.aload_n 0, 1) := by decide +kernel
theorem d_Frm_start_44 : decode b_Frm_start 44 = .ok (.iconst 0, 1) := by decide +kernel
theorem d_Frm_start_45 : decode b_Frm_start 45 = .ok (.putfield 47, 3) := by decide +kernel
theorem d_Frm_start_48 : decode b_Frm_start 48 = .ok (.return_, 1) := by decide +kernel
theorem d_Frm_end_0 : decode b_Frm_end 0 = .ok (.aload_n 0, 1) := by decide +kernel
theorem d_Frm_end_1 : decode b_Frm_end 1 = .ok (.iconst 1, 1) := by decide +kernel
theorem d_Frm_end_2 : decode b_Frm_end 2 = .ok (.putfield 47, 3) := by decide +kernel
theorem d_Frm_end_5 : decode b_Frm_end 5 = .ok (.aload_n 0, 1) := by decide +kernel
theorem d_Frm_end_6 : decode b_Frm_end 6 = .ok (.iload_n 1, 1) := by decide +kernel
theorem d_Frm_end_7 : decode b_Frm_end 7 = .ok (.putfield 51, 3) := by decide +kernel
theorem d_Frm_end_10 : decode b_Frm_end 10 = .ok (.aload_n 0, 1) := by decide +kernel
theorem d_Frm_end_11 : decode b_Frm_end 11 = .ok (.iload_n 2, 1) := by decide +kernel
theorem d_Frm_end_12 : decode b_Frm_end 12 = .ok (.putfield 54, 3) := by decide +kernel
theorem d_Frm_end_15 : decode b_Frm_end 15 = .ok (.return_, 1) := by decide +kernel
theorem d_Frm_fail_0 : decode b_Frm_fail 0 = .ok (.aload_n 0, 1) := by decide +kernel
theorem d_Frm_fail_1 : decode b_Frm_fail 1 = .ok (.iconst 0, 1) := by decide +kernel
theorem d_Frm_fail_2 : decode b_Frm_fail 2 = .ok (.putfield 41, 3) := by decide +kernel
theorem d_Frm_fail_5 : decode b_Frm_fail 5 = .ok (.aload_n 0, 1) := by decide +kernel
theorem d_Frm_fail_6 : decode b_Frm_fail 6 = .ok (.iconst 0, 1) := by decide +kernel
theorem d_Frm_fail_7 : decode b_Frm_fail 7 = .ok (.iconst 0, 1) := by decide +kernel
theorem d_Frm_fail_8 : decode b_Frm_fail 8 = .ok (.invokevirtual 57, 3) := by decide +kernel
theorem d_Frm_fail_11 : decode b_Frm_fail 11 = .ok (.return_, 1) := by decide +kernel
theorem d_Frm_below_0 : decode b_Frm_below 0 = .ok (.aload_n 0, 1) := by decide +kernel
theorem d_Frm_below_1 : decode b_Frm_below 1 = .ok (.getfield 44, 3) := by decide +kernel
theorem d_Frm_below_4 : decode b_Frm_below 4 = .ok (.iconst 1, 1) := by decide +kernel
theorem d_Frm_below_5 : decode b_Frm_below 5 = .ok (.isub, 1) := by decide +kernel
theorem d_Frm_below_6 : decode b_Frm_below 6 = .ok (.iload_n 1, 1) := by decide +kernel
theorem d_Frm_below_7 : decode b_Frm_below 7 = .ok (.isub, 1) := by decide +kernel
theorem d_Frm_below_8 : decode b_Frm_below 8 = .ok (.istore_n 2, 1) := by decide +kernel
theorem d_Frm_below_9 : decode b_Frm_below 9 = .ok (.iload_n 2, 1) := by decide +kernel
theorem d_Frm_below_10 : decode b_Frm_below 10 = .ok (.ifCond .lt 20, 3) := by decide +kernel
theorem d_Frm_below_13 : decode b_Frm_below 13 = .ok (.iload_n 2, 1) := by decide +kernel
theorem d_Frm_below_14 : decode b_Frm_below 14 = .ok (.aload_n 0, 1) := by decide +kernel
theorem d_Frm_below_15 : decode b_Frm_below 15 = .ok (.getfield 44, 3) := by decide +kernel
theorem d_Frm_below_18 : decode b_Frm_below 18 = .ok (.if_icmp .ge 12, 3) := by decide +kernel
theorem d_Frm_below_21 : decode b_Frm_below 21 = .ok (.aload_n 0, 1) := by decide +kernel
theorem d_Frm_below_22 : decode b_Frm_below 22 = .ok (.getfield 9, 3) := by decide +kernel
theorem d_Frm_below_25 : decode b_Frm_below 25 = .ok (.iload_n 2, 1) := by decide +kernel
theorem d_Frm_below_26 : decode b_Frm_below 26 = .ok (.iaload, 1) := by decide +kernel
theorem d_Frm_below_27 : decode b_Frm_below 27 = .ok (.goto 4, 3) := by decide +kernel
theorem d_Frm_below_30 : decode b_Frm_below 30 = .ok (.iconst 0, 1) := by decide +kernel
theorem d_Frm_below_31 : decode b_Frm_below 31 = .ok (.ireturn, 1) := by decide +kernel
theorem d_Frm_push_0 : decode b_Frm_push 0 = .ok (.aload_n 0, 1) := by decide +kernel
theorem d_Frm_push_1 : decode b_Frm_push 1 = .ok (.getfield 44, 3) := by decide +kernel
theorem d_Frm_push_4 : decode b_Frm_push 4 = .ok (.bipush 12, 2) := by decide +kernel
theorem d_Frm_push_6 : decode b_Frm_push 6 = .ok (.if_icmp .ge 23, 3) := by decide +kernel
theorem d_Frm_push_9 : decode b_Frm_push 9 = .ok (.aload_n 0, 1) := by decide +kernel
theorem d_Frm_push_10 : decode b_Frm_push 10 = .ok (.getfield 9, 3) := by decide +kernel
theorem d_Frm_push_13 : decode b_Frm_push 13 = .ok (.aload_n 0, 1) := by decide +kernel
theorem d_Frm_push_14 : decode b_Frm_push 14 = .ok (.getfield 44, 3) := by decide +kernel
theorem d_Frm_push_17 : decode b_Frm_push 17 = .ok (.iload_n 1, 1) := by decide +kernel
theorem d_Frm_push_18 : decode b_Frm_push 18 = .ok (.iastore, 1) := by decide +kernel
theorem d_Frm_push_19 : decode b_Frm_push 19 = .ok (.aload_n 0, 1) := by decide +kernel
theorem d_Frm_push_20 : decode b_Frm_push 20 = .ok (.dup, 1) := by decide +kernel
theorem d_Frm_push_21 : decode b_Frm_push 21 = .ok (.getfield 44, 3) := by decide +kernel
theorem d_Frm_push_24 : decode b_Frm_push 24 = .ok (.iconst 1, 1) := by decide +kernel
theorem d_Frm_push_25 : decode b_Frm_push 25 = .ok (.iadd, 1) := by decide +kernel
theorem d_Frm_push_26 : decode b_Frm_push 26 = .ok (.putfield 44, 3) := by decide +kernel
theorem d_Frm_push_29 : decode b_Frm_push 29 = .ok (.return_, 1) := by decide +kernel
theorem d_Frm_pop_0 : decode b_Frm_pop 0 = .ok (.aload_n 0, 1) := by decide +kernel
theorem d_Frm_pop_1 : decode b_Frm_pop 1 = .ok (.getfield 44, 3) := by decide +kernel
theorem d_Frm_pop_4 : decode b_Frm_pop 4 = .ok (.ifCond .gt 5, 3) := by decide +kernel
theorem d_Frm_pop_7 : decode b_Frm_pop 7 = .ok (.iconst 0, 1) := by decide +kernel
theorem d_Frm_pop_8 : decode b_Frm_pop 8 = .ok (.ireturn, 1) := by decide +kernel
theorem d_Frm_pop_9 : decode b_Frm_pop 9 = .ok (.aload_n 0, 1) := by decide +kernel
theorem d_Frm_pop_10 : decode b_Frm_pop 10 = .ok (.dup, 1) := by decide +kernel
theorem d_Frm_pop_11 : decode b_Frm_pop 11 = .ok (.getfield 44, 3) := by decide +kernel
theorem d_Frm_pop_14 : decode b_Frm_pop 14 = .ok (.iconst 1, 1) := by decide +kernel
theorem d_Frm_pop_15 : decode b_Frm_pop 15 = .ok (.isub, 1) := by decide +kernel
theorem d_Frm_pop_16 : decode b_Frm_pop 16 = .ok (.putfield 44, 3) := by decide +kernel
theorem d_Frm_pop_19 : decode b_Frm_pop 19 = .ok (.aload_n 0, 1) := by decide +kernel
theorem d_Frm_pop_20 : decode b_Frm_pop 20 = .ok (.getfield 9, 3) := by decide +kernel
theorem d_Frm_pop_23 : decode b_Frm_pop 23 = .ok (.aload_n 0, 1) := by decide +kernel
theorem d_Frm_pop_24 : decode b_Frm_pop 24 = .ok (.getfield 44, 3) := by decide +kernel
theorem d_Frm_pop_27 : decode b_Frm_pop 27 = .ok (.iaload, 1) := by decide +kernel
theorem d_Frm_pop_28 : decode b_Frm_pop 28 = .ok (.ireturn, 1) := by decide +kernel
theorem d_Frm_swap_0 : decode b_Frm_swap 0 = .ok (.aload_n 0, 1) := by decide +kernel
theorem d_Frm_swap_1 : decode b_Frm_swap 1 = .ok (.getfield 44, 3) := by decide +kernel
theorem d_Frm_swap_4 : decode b_Frm_swap 4 = .ok (.iconst 1, 1) := by decide +kernel
theorem d_Frm_swap_5 : decode b_Frm_swap 5 = .ok (.isub, 1) := by decide +kernel
theorem d_Frm_swap_6 : decode b_Frm_swap 6 = .ok (.iload_n 1, 1) := by decide +kernel
theorem d_Frm_swap_7 : decode b_Frm_swap 7 = .ok (.isub, 1) := by decide +kernel
theorem d_Frm_swap_8 : decode b_Frm_swap 8 = .ok (.istore_n 2, 1) := by decide +kernel
theorem d_Frm_swap_9 : decode b_Frm_swap 9 = .ok (.iload_n 2, 1) := by decide +kernel
theorem d_Frm_swap_10 : decode b_Frm_swap 10 = .ok (.ifCond .lt 47, 3) := by decide +kernel
theorem d_Frm_swap_13 : decode b_Frm_swap 13 = .ok (.iload_n 2, 1) := by decide +kernel
theorem d_Frm_swap_14 : decode b_Frm_swap 14 = .ok (.aload_n 0, 1) := by decide +kernel
theorem d_Frm_swap_15 : decode b_Frm_swap 15 = .ok (.getfield 44, 3) := by decide +kernel
theorem d_Frm_swap_18 : decode b_Frm_swap 18 = .ok (.if_icmp .ge 39, 3) := by decide +kernel
theorem d_Frm_swap_21 : decode b_Frm_swap 21 = .ok (.aload_n 0, 1) := by decide +kernel
theorem d_Frm_swap_22 : decode b_Frm_swap 22 = .ok (.getfield 9, 3) := by decide +kernel
theorem d_Frm_swap_25 : decode b_Frm_swap 25 = .ok (.aload_n 0, 1) := by decide +kernel
theorem d_Frm_swap_26 : decode b_Frm_swap 26 = .ok (.getfield 44, 3) := by decide +kernel
theorem d_Frm_swap_29 : decode b_Frm_swap 29 = .ok (.iconst 1, 1) := by decide +kernel
theorem d_Frm_swap_30 : decode b_Frm_swap 30 = .ok (.isub, 1) := by decide +kernel
theorem d_Frm_swap_31 : decode b_Frm_swap 31 = .ok (.iaload, 1) := by decide +kernel
theorem d_Frm_swap_32 : decode b_Frm_swap 32 = .ok (.istore_n 3, 1) := by decide +kernel
theorem d_Frm_swap_33 : decode b_Frm_swap 33 = .ok (.aload_n 0, 1) := by decide +kernel
theorem d_Frm_swap_34 : decode b_Frm_swap 34 = .ok (.getfield 9, 3) := by decide +kernel
theorem d_Frm_swap_37 : decode b_Frm_swap 37 = .ok (.aload_n 0, 1) := by decide +kernel
theorem d_Frm_swap_38 : decode b_Frm_swap 38 = .ok (.getfield 44, 3) := by decide +kernel
theorem d_Frm_swap_41 : decode b_Frm_swap 41 = .ok (.iconst 1, 1) := by decide +kernel
theorem d_Frm_swap_42 : decode b_Frm_swap 42 = .ok (.isub, 1) := by decide +kernel
theorem d_Frm_swap_43 : decode b_Frm_swap 43 = .ok (.aload_n 0, 1) := by decide +kernel
theorem d_Frm_swap_44 : decode b_Frm_swap 44 = .ok (.getfield 9, 3) := by decide +kernel
theorem d_Frm_swap_47 : decode b_Frm_swap 47 = .ok (.iload_n 2, 1) := by decide +kernel
theorem d_Frm_swap_48 : decode b_Frm_swap 48 = .ok (.iaload, 1) := by decide +kernel
theorem d_Frm_swap_49 : decode b_Frm_swap 49 = .ok (.iastore, 1) := by decide +kernel
theorem d_Frm_swap_50 : decode b_Frm_swap 50 = .ok (.aload_n 0, 1) := by decide +kernel
theorem d_Frm_swap_51 : decode b_Frm_swap 51 = .ok (.getfield 9, 3) := by decide +kernel
theorem d_Frm_swap_54 : decode b_Frm_swap 54 = .ok (.iload_n 2, 1) := by decide +kernel
theorem d_Frm_swap_55 : decode b_Frm_swap 55 = .ok (.iload_n 3, 1) := by decide +kernel
theorem d_Frm_swap_56 : decode b_Frm_swap 56 = .ok (.iastore, 1) := by decide +kernel
theorem d_Frm_swap_57 : decode b_Frm_swap 57 = .ok (.return_, 1) := by decide +kernel
theorem d_Log_init_0 : decode b_Log_init 0 = .ok (.aload_n 0, 1) := by decide +kernel
theorem d_Log_init_1 : decode b_Log_init 1 = .ok (.invokespecial 3, 3) := by decide +kernel
theorem d_Log_init_4 : decode b_Log_init 4 = .ok (.aload_n 0, 1) := by decide +kernel
theorem d_Log_init_5 : decode b_Log_init 5 = .ok (.bipush 16, 2) := by decide +kernel
theorem d_Log_init_7 : decode b_Log_init 7 = .ok (.newarray .int, 2) := by decide +kernel
theorem d_Log_init_9 : decode b_Log_init 9 = .ok (.putfield 9, 3) := by decide +kernel
theorem d_Log_init_12 : decode b_Log_init 12 = .ok (.aload_n 0, 1) := by decide +kernel
theorem d_Log_init_13 : decode b_Log_init 13 = .ok (.bipush 16, 2) := by decide +kernel
theorem d_Log_init_15 : decode b_Log_init 15 = .ok (.newarray .int, 2) := by decide +kernel
theorem d_Log_init_17 : decode b_Log_init 17 = .ok (.putfield 15, 3) := by decide +kernel
theorem d_Log_init_20 : decode b_Log_init 20 = .ok (.return_, 1) := by decide +kernel
theorem d_Log_add_0 : decode b_Log_add 0 = .ok (.aload_n 0, 1) := by decide +kernel
theorem d_Log_add_1 : decode b_Log_add 1 = .ok (.getfield 18, 3) := by decide +kernel
theorem d_Log_add_4 : decode b_Log_add 4 = .ok (.bipush 16, 2) := by decide +kernel
theorem d_Log_add_6 : decode b_Log_add 6 = .ok (.if_icmp .ge 23, 3) := by decide +kernel
theorem d_Log_add_9 : decode b_Log_add 9 = .ok (.aload_n 0, 1) := by decide +kernel
theorem d_Log_add_10 : decode b_Log_add 10 = .ok (.getfield 9, 3) := by decide +kernel
theorem d_Log_add_13 : decode b_Log_add 13 = .ok (.aload_n 0, 1) := by decide +kernel
theorem d_Log_add_14 : decode b_Log_add 14 = .ok (.getfield 18, 3) := by decide +kernel
theorem d_Log_add_17 : decode b_Log_add 17 = .ok (.iload_n 1, 1) := by decide +kernel
theorem d_Log_add_18 : decode b_Log_add 18 = .ok (.iastore, 1) := by decide +kernel
theorem d_Log_add_19 : decode b_Log_add 19 = .ok (.aload_n 0, 1) := by decide +kernel
theorem d_Log_add_20 : decode b_Log_add 20 = .ok (.getfield 15, 3) := by decide +kernel
theorem d_Log_add_23 : decode b_Log_add 23 = .ok (.aload_n 0, 1) := by decide +kernel
theorem d_Log_add_24 : decode b_Log_add 24 = .ok (.getfield 18, 3) := by decide +kernel
theorem d_Log_add_27 : decode b_Log_add 27 = .ok (.iload_n 2, 1) := by decide +kernel
theorem d_Log_add_28 : decode b_Log_add 28 = .ok (.iastore, 1) := by decide +kernel
theorem d_Log_add_29 : decode b_Log_add 29 = .ok (.aload_n 0, 1) := by decide +kernel
theorem d_Log_add_30 : decode b_Log_add 30 = .ok (.dup, 1) := by decide +kernel
theorem d_Log_add_31 : decode b_Log_add 31 = .ok (.getfield 18, 3) := by decide +kernel
theorem d_Log_add_34 : decode b_Log_add 34 = .ok (.iconst 1, 1) := by decide +kernel
theorem d_Log_add_35 : decode b_Log_add 35 = .ok (.iadd, 1) := by decide +kernel
theorem d_Log_add_36 : decode b_Log_add 36 = .ok (.putfield 18, 3) := by decide +kernel
theorem d_Log_add_39 : decode b_Log_add 39 = .ok (.aload_n 0, 1) := by decide +kernel
theorem d_Log_add_40 : decode b_Log_add 40 = .ok (.dup, 1) := by decide +kernel
theorem d_Log_add_41 : decode b_Log_add 41 = .ok (.getfield 22, 3) := by decide +kernel
theorem d_Log_add_44 : decode b_Log_add 44 = .ok (.iconst 1, 1) := by decide +kernel
theorem d_Log_add_45 : decode b_Log_add 45 = .ok (.iload_n 2, 1) := by decide +kernel
theorem d_Log_add_46 : decode b_Log_add 46 = .ok (.bipush 31, 2) := by decide +kernel
theorem d_Log_add_48 : decode b_Log_add 48 = .ok (.iand, 1) := by decide +kernel
theorem d_Log_add_49 : decode b_Log_add 49 = .ok (.ishl, 1) := by decide +kernel
theorem d_Log_add_50 : decode b_Log_add 50 = .ok (.iconst 1, 1) := by decide +kernel
theorem d_Log_add_51 : decode b_Log_add 51 = .ok (.bipush 6, 2) := by decide +kernel
theorem d_Log_add_53 : decode b_Log_add 53 = .ok (.iload_n 2, 1) := by decide +kernel
theorem d_Log_add_54 : decode b_Log_add 54 = .ok (.invokestatic 25, 3) := by decide +kernel
theorem d_Log_add_57 : decode b_Log_add 57 = .ok (.bipush 31, 2) := by decide +kernel
theorem d_Log_add_59 : decode b_Log_add 59 = .ok (.iand, 1) := by decide +kernel
theorem d_Log_add_60 : decode b_Log_add 60 = .ok (.ishl, 1) := by decide +kernel
theorem d_Log_add_61 : decode b_Log_add 61 = .ok (.ior, 1) := by decide +kernel
theorem d_Log_add_62 : decode b_Log_add 62 = .ok (.ior, 1) := by decide +kernel
theorem d_Log_add_63 : decode b_Log_add 63 = .ok (.putfield 22, 3) := by decide +kernel
theorem d_Log_add_66 : decode b_Log_add 66 = .ok (.return_, 1) := by decide +kernel
theorem d_Log_cutBackTo_0 : decode b_Log_cutBackTo 0 = .ok (.aload_n 0, 1) := by decide +kernel
theorem d_Log_cutBackTo_1 : decode b_Log_cutBackTo 1 = .ok (.iload_n 1, 1) := by decide +kernel
theorem d_Log_cutBackTo_2 : decode b_Log_cutBackTo 2 = .ok (.putfield 18, 3) := by decide +kernel
theorem d_Log_cutBackTo_5 : decode b_Log_cutBackTo 5 = .ok (.aload_n 0, 1) := by decide +kernel
theorem d_Log_cutBackTo_6 : decode b_Log_cutBackTo 6 = .ok (.iload_n 2, 1) := by decide +kernel
theorem d_Log_cutBackTo_7 : decode b_Log_cutBackTo 7 = .ok (.putfield 22, 3) := by decide +kernel
theorem d_Log_cutBackTo_10 : decode b_Log_cutBackTo 10 = .ok (.return_, 1) := by decide +kernel
theorem d_Log_partOf_0 : decode b_Log_partOf 0 = .ok (.iload_n 1, 1) := by decide +kernel
theorem d_Log_partOf_1 : decode b_Log_partOf 1 = .ok (.ifCond .lt 17, 3) := by decide +kernel
theorem d_Log_partOf_4 : decode b_Log_partOf 4 = .ok (.iload_n 1, 1) := by decide +kernel
theorem d_Log_partOf_5 : decode b_Log_partOf 5 = .ok (.aload_n 0, 1) := by decide +kernel
theorem d_Log_partOf_6 : decode b_Log_partOf 6 = .ok (.getfield 18, 3) := by decide +kernel
theorem d_Log_partOf_9 : decode b_Log_partOf 9 = .ok (.if_icmp .ge 9, 3) := by decide +kernel
theorem d_Log_partOf_12 : decode b_Log_partOf 12 = .ok (.iload_n 1, 1) := by decide +kernel
theorem d_Log_partOf_13 : decode b_Log_partOf 13 = .ok (.bipush 16, 2) := by decide +kernel
theorem d_Log_partOf_15 : decode b_Log_partOf 15 = .ok (.if_icmp .lt 5, 3) := by decide +kernel
theorem d_Log_partOf_18 : decode b_Log_partOf 18 = .ok (.iconst (-1), 1) := by decide +kernel
theorem d_Log_partOf_19 : decode b_Log_partOf 19 = .ok (.ireturn, 1) := by decide +kernel
theorem d_Log_partOf_20 : decode b_Log_partOf 20 = .ok (.iload_n 2, 1) := by decide +kernel
theorem d_Log_partOf_21 : decode b_Log_partOf 21 = .ok (.lookupswitch 41 #[(0, 27), (1, 34)], 27) := by decide +kernel
theorem d_Log_partOf_48 : decode b_Log_partOf 48 = .ok (.aload_n 0, 1) := by decide +kernel
theorem d_Log_partOf_49 : decode b_Log_partOf 49 = .ok (.getfield 9, 3) := by decide +kernel
theorem d_Log_partOf_52 : decode b_Log_partOf 52 = .ok (.iload_n 1, 1) := by decide +kernel
theorem d_Log_partOf_53 : decode b_Log_partOf 53 = .ok (.iaload, 1) := by decide +kernel
theorem d_Log_partOf_54 : decode b_Log_partOf 54 = .ok (.ireturn, 1) := by decide +kernel
theorem d_Log_partOf_55 : decode b_Log_partOf 55 = .ok (.aload_n 0, 1) := by decide +kernel
theorem d_Log_partOf_56 : decode b_Log_partOf 56 = .ok (.getfield 15, 3) := by decide +kernel
theorem d_Log_partOf_59 : decode b_Log_partOf 59 = .ok (.iload_n 1, 1) := by decide +kernel
theorem d_Log_partOf_60 : decode b_Log_partOf 60 = .ok (.iaload, 1) := by decide +kernel
theorem d_Log_partOf_61 : decode b_Log_partOf 61 = .ok (.ireturn, 1) := by decide +kernel
theorem d_Log_partOf_62 : decode b_Log_partOf 62 = .ok (.iconst (-1), 1) := by decide +kernel
theorem d_Log_partOf_63 : decode b_Log_partOf 63 = .ok (.ireturn, 1) := by decide +kernel
theorem d_Mac_init_0 : decode b_Mac_init 0 = .ok (.aload_n 0, 1) := by decide +kernel
theorem d_Mac_init_1 : decode b_Mac_init 1 = .ok (.invokespecial 3, 3) := by decide +kernel
theorem d_Mac_init_4 : decode b_Mac_init 4 = .ok (.aload_n 0, 1) := by decide +kernel
theorem d_Mac_init_5 : decode b_Mac_init 5 = .ok (.new 9, 3) := by decide +kernel
theorem d_Mac_init_8 : decode b_Mac_init 8 = .ok (.dup, 1) := by decide +kernel
theorem d_Mac_init_9 : decode b_Mac_init 9 = .ok (.invokespecial 11, 3) := by decide +kernel
theorem d_Mac_init_12 : decode b_Mac_init 12 = .ok (.putfield 12, 3) := by decide +kernel
theorem d_Mac_init_15 : decode b_Mac_init 15 = .ok (.aload_n 0, 1) := by decide +kernel
theorem d_Mac_init_16 : decode b_Mac_init 16 = .ok (.new 18, 3) := by decide +kernel
theorem d_Mac_init_19 : decode b_Mac_init 19 = .ok (.dup, 1) := by decide +kernel
theorem d_Mac_init_20 : decode b_Mac_init 20 = .ok (.invokespecial 20, 3) := by decide +kernel
theorem d_Mac_init_23 : decode b_Mac_init 23 = .ok (.putfield 21, 3) := by decide +kernel
theorem d_Mac_init_26 : decode b_Mac_init 26 = .ok (.aload_n 0, 1) := by decide +kernel
theorem d_Mac_init_27 : decode b_Mac_init 27 = .ok (.bipush 8, 2) := by decide +kernel
theorem d_Mac_init_29 : decode b_Mac_init 29 = .ok (.anewarray 25, 3) := by decide +kernel
theorem d_Mac_init_32 : decode b_Mac_init 32 = .ok (.putfield 27, 3) := by decide +kernel
theorem d_Mac_init_35 : decode b_Mac_init 35 = .ok (.iconst 0, 1) := by decide +kernel
theorem d_Mac_init_36 : decode b_Mac_init 36 = .ok (.istore_n 1, 1) := by decide +kernel
theorem d_Mac_init_37 : decode b_Mac_init 37 = .ok (.iload_n 1, 1) := by decide +kernel
theorem d_Mac_init_38 : decode b_Mac_init 38 = .ok (.bipush 8, 2) := by decide +kernel
theorem d_Mac_init_40 : decode b_Mac_init 40 = .ok (.if_icmp .ge 22, 3) := by decide +kernel
theorem d_Mac_init_43 : decode b_Mac_init 43 = .ok (.aload_n 0, 1) := by decide +kernel
theorem d_Mac_init_44 : decode b_Mac_init 44 = .ok (.getfield 27, 3) := by decide +kernel
theorem d_Mac_init_47 : decode b_Mac_init 47 = .ok (.iload_n 1, 1) := by decide +kernel
theorem d_Mac_init_48 : decode b_Mac_init 48 = .ok (.new 25, 3) := by decide +kernel
theorem d_Mac_init_51 : decode b_Mac_init 51 = .ok (.dup, 1) := by decide +kernel
theorem d_Mac_init_52 : decode b_Mac_init 52 = .ok (.invokespecial 31, 3) := by decide +kernel
theorem d_Mac_init_55 : decode b_Mac_init 55 = .ok (.aastore, 1) := by decide +kernel
theorem d_Mac_init_56 : decode b_Mac_init 56 = .ok (.iinc 1 1, 3) := by decide +kernel
theorem d_Mac_init_59 : decode b_Mac_init 59 = .ok (.goto (-22), 3) := by decide +kernel
theorem d_Mac_init_62 : decode b_Mac_init 62 = .ok (.return_, 1) := by decide +kernel
theorem d_Mac_run_0 : decode b_Mac_run 0 = .ok (.aload_n 0, 1) := by decide +kernel
theorem d_Mac_run_1 : decode b_Mac_run 1 = .ok (.iconst 0, 1) := by decide +kernel
theorem d_Mac_run_2 : decode b_Mac_run 2 = .ok (.putfield 32, 3) := by decide +kernel
theorem d_Mac_run_5 : decode b_Mac_run 5 = .ok (.aload_n 0, 1) := by decide +kernel
theorem d_Mac_run_6 : decode b_Mac_run 6 = .ok (.iconst 0, 1) := by decide +kernel
theorem d_Mac_run_7 : decode b_Mac_run 7 = .ok (.putfield 36, 3) := by decide +kernel
theorem d_Mac_run_10 : decode b_Mac_run 10 = .ok (.aload_n 0, 1) := by decide +kernel
theorem d_Mac_run_11 : decode b_Mac_run 11 = .ok (.iconst 0, 1) := by decide +kernel
theorem d_Mac_run_12 : decode b_Mac_run 12 = .ok (.putfield 39, 3) := by decide +kernel
theorem d_Mac_run_15 : decode b_Mac_run 15 = .ok (.aload_n 0, 1) := by decide +kernel
theorem d_Mac_run_16 : decode b_Mac_run 16 = .ok (.iload_n 2, 1) := by decide +kernel
theorem d_Mac_run_17 : decode b_Mac_run 17 = .ok (.iload_n 2, 1) := by decide +kernel
theorem d_Mac_run_18 : decode b_Mac_run 18 = .ok (.iload_n 1, 1) := by decide +kernel
theorem d_Mac_run_19 : decode b_Mac_run 19 = .ok (.iload_n 3, 1) := by decide +kernel
theorem d_Mac_run_20 : decode b_Mac_run 20 = .ok (.iload 4, 2) := by decide +kernel
theorem d_Mac_run_22 : decode b_Mac_run 22 = .ok (.iload 5, 2) := by decide +kernel
theorem d_Mac_run_24 : decode b_Mac_run 24 = .ok (.invokevirtual 42, 3) := by decide +kernel
theorem d_Mac_run_27 : decode b_Mac_run 27 = .ok (.aload_n 0, 1) := by decide +kernel
theorem d_Mac_run_28 : decode b_Mac_run 28 = .ok (.getfield 12, 3) := by decide +kernel
theorem d_Mac_run_31 : decode b_Mac_run 31 = .ok (.iload_n 1, 1) := by decide +kernel
theorem d_Mac_run_32 : decode b_Mac_run 32 = .ok (.iload_n 2, 1) := by decide +kernel
theorem d_Mac_run_33 : decode b_Mac_run 33 = .ok (.iload_n 3, 1) := by decide +kernel
theorem d_Mac_run_34 : decode b_Mac_run 34 = .ok (.invokevirtual 46, 3) := by decide +kernel
theorem d_Mac_run_37 : decode b_Mac_run 37 = .ok (.iconst 0, 1) := by decide +kernel
theorem d_Mac_run_38 : decode b_Mac_run 38 = .ok (.istore 6, 2) := by decide +kernel
theorem d_Mac_run_40 : decode b_Mac_run 40 = .ok (.iload 6, 2) := by decide +kernel
theorem d_Mac_run_42 : decode b_Mac_run 42 = .ok (.ldc 50, 2) := by decide +kernel
theorem d_Mac_run_44 : decode b_Mac_run 44 = .ok (.if_icmp .ge 49, 3) := by decide +kernel
theorem d_Mac_run_47 : decode b_Mac_run 47 = .ok (.aload_n 0, 1) := by decide +kernel
theorem d_Mac_run_48 : decode b_Mac_run 48 = .ok (.getfield 39, 3) := by decide +kernel
theorem d_Mac_run_51 : decode b_Mac_run 51 = .ok (.ifCond .le 42, 3) := by decide +kernel
theorem d_Mac_run_54 : decode b_Mac_run 54 = .ok (.aload_n 0, 1) := by decide +kernel
theorem d_Mac_run_55 : decode b_Mac_run 55 = .ok (.getfield 27, 3) := by decide +kernel
theorem d_Mac_run_58 : decode b_Mac_run 58 = .ok (.aload_n 0, 1) := by decide +kernel
theorem d_Mac_run_59 : decode b_Mac_run 59 = .ok (.getfield 39, 3) := by decide +kernel
theorem d_Mac_run_62 : decode b_Mac_run 62 = .ok (.iconst 1, 1) := by decide +kernel
theorem d_Mac_run_63 : decode b_Mac_run 63 = .ok (.isub, 1) := by decide +kernel
theorem d_Mac_run_64 : decode b_Mac_run 64 = .ok (.aaload, 1) := by decide +kernel
theorem d_Mac_run_65 : decode b_Mac_run 65 = .ok (.astore 7, 2) := by decide +kernel
theorem d_Mac_run_67 : decode b_Mac_run 67 = .ok (.aload_n 0, 1) := by decide +kernel
theorem d_Mac_run_68 : decode b_Mac_run 68 = .ok (.aload 7, 2) := by decide +kernel
theorem d_Mac_run_70 : decode b_Mac_run 70 = .ok (.invokevirtual 51, 3) := by decide +kernel
theorem d_Mac_run_73 : decode b_Mac_run 73 = .ok (.aload 7, 2) := by decide +kernel
theorem d_Mac_run_75 : decode b_Mac_run 75 = .ok (.getfield 55, 3) := by decide +kernel
theorem d_Mac_run_78 : decode b_Mac_run 78 = .ok (.ifCond .eq 9, 3) := by decide +kernel
theorem d_Mac_run_81 : decode b_Mac_run 81 = .ok (.aload_n 0, 1) := by decide +kernel
theorem d_Mac_run_82 : decode b_Mac_run 82 = .ok (.aload 7, 2) := by decide +kernel
theorem d_Mac_run_84 : decode b_Mac_run 84 = .ok (.invokevirtual 59, 3) := by decide +kernel
theorem d_Mac_run_87 : decode b_Mac_run 87 = .ok (.iinc 6 1, 3) := by decide +kernel
theorem d_Mac_run_90 : decode b_Mac_run 90 = .ok (.goto (-50), 3) := by decide +kernel
theorem d_Mac_run_93 : decode b_Mac_run 93 = .ok (.aload_n 0, 1) := by decide +kernel
theorem d_Mac_run_94 : decode b_Mac_run 94 = .ok (.getfield 27, 3) := by decide +kernel
theorem d_Mac_run_97 : decode b_Mac_run 97 = .ok (.iconst 0, 1) := by decide +kernel
theorem d_Mac_run_98 : decode b_Mac_run 98 = .ok (.aaload, 1) := by decide +kernel
theorem d_Mac_run_99 : decode b_Mac_run 99 = .ok (.areturn, 1) := by decide +kernel
theorem d_Mac_removeGoers_0 : decode b_Mac_removeGoers 0 = .ok (.iconst 0, 1) := by decide +kernel
theorem d_Mac_removeGoers_1 : decode b_Mac_removeGoers 1 = .ok (.istore_n 1, 1) := by decide +kernel
theorem d_Mac_removeGoers_2 : decode b_Mac_removeGoers 2 = .ok (.iload_n 1, 1) := by decide +kernel
theorem d_Mac_removeGoers_3 : decode b_Mac_removeGoers 3 = .ok (.bipush 16, 2) := by decide +kernel
theorem d_Mac_removeGoers_5 : decode b_Mac_removeGoers 5 = .ok (.if_icmp .ge 28, 3) := by decide +kernel
theorem d_Mac_removeGoers_8 : decode b_Mac_removeGoers 8 = .ok (.aload_n 0, 1) := by decide +kernel
theorem d_Mac_removeGoers_9 : decode b_Mac_removeGoers 9 = .ok (.getfield 36, 3) := by decide +kernel
theorem d_Mac_removeGoers_12 : decode b_Mac_removeGoers 12 = .ok (.iload_n 1, 1) := by decide +kernel
theorem d_Mac_removeGoers_13 : decode b_Mac_removeGoers 13 = .ok (.iushr, 1) := by decide +kernel
theorem d_Mac_removeGoers_14 : decode b_Mac_removeGoers 14 = .ok (.iconst 1, 1) := by decide +kernel
theorem d_Mac_removeGoers_15 : decode b_Mac_removeGoers 15 = .ok (.iand, 1) := by decide +kernel
theorem d_Mac_removeGoers_16 : decode b_Mac_removeGoers 16 = .ok (.ifCond .eq 11, 3) := by decide +kernel
theorem d_Mac_removeGoers_19 : decode b_Mac_removeGoers 19 = .ok (.aload_n 0, 1) := by decide +kernel
theorem d_Mac_removeGoers_20 : decode b_Mac_removeGoers 20 = .ok (.getfield 12, 3) := by decide +kernel
theorem d_Mac_removeGoers_23 : decode b_Mac_removeGoers 23 = .ok (.iload_n 1, 1) := by decide +kernel
theorem d_Mac_removeGoers_24 : decode b_Mac_removeGoers 24 = .ok (.invokevirtual 62, 3) := by decide +kernel
theorem d_Mac_removeGoers_27 : decode b_Mac_removeGoers 27 = .ok (.iinc 1 1, 3) := by decide +kernel
theorem d_Mac_removeGoers_30 : decode b_Mac_removeGoers 30 = .ok (.goto (-28), 3) := by decide +kernel
theorem d_Mac_removeGoers_33 : decode b_Mac_removeGoers 33 = .ok (.return_, 1) := by decide +kernel
theorem d_Mac_enter_0 : decode b_Mac_enter 0 = .ok (.aload_n 0, 1) := by decide +kernel
theorem d_Mac_enter_1 : decode b_Mac_enter 1 = .ok (.getfield 27, 3) := by decide +kernel
theorem d_Mac_enter_4 : decode b_Mac_enter 4 = .ok (.aload_n 0, 1) := by decide +kernel
theorem d_Mac_enter_5 : decode b_Mac_enter 5 = .ok (.getfield 39, 3) := by decide +kernel
theorem d_Mac_enter_8 : decode b_Mac_enter 8 = .ok (.aaload, 1) := by decide +kernel
theorem d_Mac_enter_9 : decode b_Mac_enter 9 = .ok (.astore 7, 2) := by decide +kernel
theorem d_Mac_enter_11 : decode b_Mac_enter 11 = .ok (.aload_n 0, 1) := by decide +kernel
theorem d_Mac_enter_12 : decode b_Mac_enter 12 = .ok (.dup, 1) := by decide +kernel
theorem d_Mac_enter_13 : decode b_Mac_enter 13 = .ok (.getfield 39, 3) := by decide +kernel
theorem d_Mac_enter_16 : decode b_Mac_enter 16 = .ok (.iconst 1, 1) := by decide +kernel
theorem d_Mac_enter_17 : decode b_Mac_enter 17 = .ok (.iadd, 1) := by decide +kernel
theorem d_Mac_enter_18 : decode b_Mac_enter 18 = .ok (.putfield 39, 3) := by decide +kernel
theorem d_Mac_enter_21 : decode b_Mac_enter 21 = .ok (.aload 7, 2) := by decide +kernel
theorem d_Mac_enter_23 : decode b_Mac_enter 23 = .ok (.iload_n 1, 1) := by decide +kernel
theorem d_Mac_enter_24 : decode b_Mac_enter 24 = .ok (.iload_n 2, 1) := by decide +kernel
theorem d_Mac_enter_25 : decode b_Mac_enter 25 = .ok (.iload_n 3, 1) := by decide +kernel
theorem d_Mac_enter_26 : decode b_Mac_enter 26 = .ok (.iload 4, 2) := by decide +kernel
theorem d_Mac_enter_28 : decode b_Mac_enter 28 = .ok (.iload 5, 2) := by decide +kernel
theorem d_Mac_enter_30 : decode b_Mac_enter 30 = .ok (.iload 6, 2) := by decide +kernel
theorem d_Mac_enter_32 : decode b_Mac_enter 32 = .ok (.invokevirtual 66, 3) := by decide +kernel
theorem d_Mac_enter_35 : decode b_Mac_enter 35 = .ok (.aload 7, 2) := by decide +kernel
theorem d_Mac_enter_37 : decode b_Mac_enter 37 = .ok (.getfield 69, 3) := by decide +kernel
theorem d_Mac_enter_40 : decode b_Mac_enter 40 = .ok (.aload_n 0, 1) := by decide +kernel
theorem d_Mac_enter_41 : decode b_Mac_enter 41 = .ok (.getfield 12, 3) := by decide +kernel
theorem d_Mac_enter_44 : decode b_Mac_enter 44 = .ok (.invokevirtual 72, 3) := by decide +kernel
theorem d_Mac_enter_47 : decode b_Mac_enter 47 = .ok (.aload 7, 2) := by decide +kernel
theorem d_Mac_enter_49 : decode b_Mac_enter 49 = .ok (.aload_n 0, 1) := by decide +kernel
theorem d_Mac_enter_50 : decode b_Mac_enter 50 = .ok (.getfield 32, 3) := by decide +kernel
theorem d_Mac_enter_53 : decode b_Mac_enter 53 = .ok (.putfield 76, 3) := by decide +kernel
theorem d_Mac_enter_56 : decode b_Mac_enter 56 = .ok (.aload 7, 2) := by decide +kernel
theorem d_Mac_enter_58 : decode b_Mac_enter 58 = .ok (.aload_n 0, 1) := by decide +kernel
theorem d_Mac_enter_59 : decode b_Mac_enter 59 = .ok (.getfield 36, 3) := by decide +kernel
theorem d_Mac_enter_62 : decode b_Mac_enter 62 = .ok (.putfield 79, 3) := by decide +kernel
theorem d_Mac_enter_65 : decode b_Mac_enter 65 = .ok (.aload 7, 2) := by decide +kernel
theorem d_Mac_enter_67 : decode b_Mac_enter 67 = .ok (.aload_n 0, 1) := by decide +kernel
theorem d_Mac_enter_68 : decode b_Mac_enter 68 = .ok (.getfield 21, 3) := by decide +kernel
theorem d_Mac_enter_71 : decode b_Mac_enter 71 = .ok (.getfield 82, 3) := by decide +kernel
theorem d_Mac_enter_74 : decode b_Mac_enter 74 = .ok (.putfield 85, 3) := by decide +kernel
theorem d_Mac_enter_77 : decode b_Mac_enter 77 = .ok (.aload 7, 2) := by decide +kernel
theorem d_Mac_enter_79 : decode b_Mac_enter 79 = .ok (.aload_n 0, 1) := by decide +kernel
theorem d_Mac_enter_80 : decode b_Mac_enter 80 = .ok (.getfield 21, 3) := by decide +kernel
theorem d_Mac_enter_83 : decode b_Mac_enter 83 = .ok (.getfield 88, 3) := by decide +kernel
theorem d_Mac_enter_86 : decode b_Mac_enter 86 = .ok (.putfield 91, 3) := by decide +kernel
theorem d_Mac_enter_89 : decode b_Mac_enter 89 = .ok (.return_, 1) := by decide +kernel
theorem d_Mac_undo_0 : decode b_Mac_undo 0 = .ok (.aload_n 0, 1) := by decide +kernel
theorem d_Mac_undo_1 : decode b_Mac_undo 1 = .ok (.getfield 12, 3) := by decide +kernel
theorem d_Mac_undo_4 : decode b_Mac_undo 4 = .ok (.aload_n 1, 1) := by decide +kernel
theorem d_Mac_undo_5 : decode b_Mac_undo 5 = .ok (.getfield 69, 3) := by decide +kernel
theorem d_Mac_undo_8 : decode b_Mac_undo 8 = .ok (.invokevirtual 72, 3) := by decide +kernel
theorem d_Mac_undo_11 : decode b_Mac_undo 11 = .ok (.aload_n 0, 1) := by decide +kernel
theorem d_Mac_undo_12 : decode b_Mac_undo 12 = .ok (.aload_n 1, 1) := by decide +kernel
theorem d_Mac_undo_13 : decode b_Mac_undo 13 = .ok (.getfield 76, 3) := by decide +kernel
theorem d_Mac_undo_16 : decode b_Mac_undo 16 = .ok (.putfield 32, 3) := by decide +kernel
theorem d_Mac_undo_19 : decode b_Mac_undo 19 = .ok (.aload_n 0, 1) := by decide +kernel
theorem d_Mac_undo_20 : decode b_Mac_undo 20 = .ok (.aload_n 1, 1) := by decide +kernel
theorem d_Mac_undo_21 : decode b_Mac_undo 21 = .ok (.getfield 79, 3) := by decide +kernel
theorem d_Mac_undo_24 : decode b_Mac_undo 24 = .ok (.putfield 36, 3) := by decide +kernel
theorem d_Mac_undo_27 : decode b_Mac_undo 27 = .ok (.aload_n 0, 1) := by decide +kernel
theorem d_Mac_undo_28 : decode b_Mac_undo 28 = .ok (.getfield 21, 3) := by decide +kernel
theorem d_Mac_undo_31 : decode b_Mac_undo 31 = .ok (.aload_n 1, 1) := by decide +kernel
theorem d_Mac_undo_32 : decode b_Mac_undo 32 = .ok (.getfield 85, 3) := by decide +kernel
theorem d_Mac_undo_35 : decode b_Mac_undo 35 = .ok (.aload_n 1, 1) := by decide +kernel
theorem d_Mac_undo_36 : decode b_Mac_undo 36 = .ok (.getfield 91, 3) := by decide +kernel
theorem d_Mac_undo_39 : decode b_Mac_undo 39 = .ok (.invokevirtual 94, 3) := by decide +kernel
theorem d_Mac_undo_42 : decode b_Mac_undo 42 = .ok (.return_, 1) := by decide +kernel
theorem d_Mac_leave_0 : decode b_Mac_leave 0 = .ok (.aload_n 1, 1) := by decide +kernel
theorem d_Mac_leave_1 : decode b_Mac_leave 1 = .ok (.getfield 98, 3) := by decide +kernel
theorem d_Mac_leave_4 : decode b_Mac_leave 4 = .ok (.ifCond .ne 8, 3) := by decide +kernel
theorem d_Mac_leave_7 : decode b_Mac_leave 7 = .ok (.aload_n 0, 1) := by decide +kernel
theorem d_Mac_leave_8 : decode b_Mac_leave 8 = .ok (.aload_n 1, 1) := by decide +kernel
theorem d_Mac_leave_9 : decode b_Mac_leave 9 = .ok (.invokevirtual 101, 3) := by decide +kernel
theorem d_Mac_leave_12 : decode b_Mac_leave 12 = .ok (.aload_n 0, 1) := by decide +kernel
theorem d_Mac_leave_13 : decode b_Mac_leave 13 = .ok (.dup, 1) := by decide +kernel
theorem d_Mac_leave_14 : decode b_Mac_leave 14 = .ok (.getfield 39, 3) := by decide +kernel
theorem d_Mac_leave_17 : decode b_Mac_leave 17 = .ok (.iconst 1, 1) := by decide +kernel
theorem d_Mac_leave_18 : decode b_Mac_leave 18 = .ok (.isub, 1) := by decide +kernel
theorem d_Mac_leave_19 : decode b_Mac_leave 19 = .ok (.putfield 39, 3) := by decide +kernel
theorem d_Mac_leave_22 : decode b_Mac_leave 22 = .ok (.aload_n 0, 1) := by decide +kernel
theorem d_Mac_leave_23 : decode b_Mac_leave 23 = .ok (.getfield 39, 3) := by decide +kernel
theorem d_Mac_leave_26 : decode b_Mac_leave 26 = .ok (.ifCond .le 52, 3) := by decide +kernel
theorem d_Mac_leave_29 : decode b_Mac_leave 29 = .ok (.aload_n 0, 1) := by decide +kernel
theorem d_Mac_leave_30 : decode b_Mac_leave 30 = .ok (.getfield 27, 3) := by decide +kernel
theorem d_Mac_leave_33 : decode b_Mac_leave 33 = .ok (.aload_n 0, 1) := by decide +kernel
theorem d_Mac_leave_34 : decode b_Mac_leave 34 = .ok (.getfield 39, 3) := by decide +kernel
theorem d_Mac_leave_37 : decode b_Mac_leave 37 = .ok (.iconst 1, 1) := by decide +kernel
theorem d_Mac_leave_38 : decode b_Mac_leave 38 = .ok (.isub, 1) := by decide +kernel
theorem d_Mac_leave_39 : decode b_Mac_leave 39 = .ok (.aaload, 1) := by decide +kernel
theorem d_Mac_leave_40 : decode b_Mac_leave 40 = .ok (.astore_n 2, 1) := by decide +kernel
theorem d_Mac_leave_41 : decode b_Mac_leave 41 = .ok (.aload_n 2, 1) := by decide +kernel
theorem d_Mac_leave_42 : decode b_Mac_leave 42 = .ok (.dup, 1) := by decide +kernel
theorem d_Mac_leave_43 : decode b_Mac_leave 43 = .ok (.getfield 104, 3) := by decide +kernel
theorem d_Mac_leave_46 : decode b_Mac_leave 46 = .ok (.aload_n 1, 1) := by decide +kernel
theorem d_Mac_leave_47 : decode b_Mac_leave 47 = .ok (.getfield 104, 3) := by decide +kernel
theorem d_Mac_leave_50 : decode b_Mac_leave 50 = .ok (.iadd, 1) := by decide +kernel
theorem d_Mac_leave_51 : decode b_Mac_leave 51 = .ok (.putfield 104, 3) := by decide +kernel
theorem d_Mac_leave_54 : decode b_Mac_leave 54 = .ok (.aload_n 2, 1) := by decide +kernel
theorem d_Mac_leave_55 : decode b_Mac_leave 55 = .ok (.aload_n 1, 1) := by decide +kernel
theorem d_Mac_leave_56 : decode b_Mac_leave 56 = .ok (.getfield 107, 3) := by decide +kernel
theorem d_Mac_leave_59 : decode b_Mac_leave 59 = .ok (.invokevirtual 110, 3) := by decide +kernel
theorem d_Mac_leave_62 : decode b_Mac_leave 62 = .ok (.aload_n 2, 1) := by decide +kernel
theorem d_Mac_leave_63 : decode b_Mac_leave 63 = .ok (.aload_n 1, 1) := by decide +kernel
theorem d_Mac_leave_64 : decode b_Mac_leave 64 = .ok (.getfield 98, 3) := by decide +kernel
theorem d_Mac_leave_67 : decode b_Mac_leave 67 = .ok (.ifCond .eq 7, 3) := by decide +kernel
theorem d_Mac_leave_70 : decode b_Mac_leave 70 = .ok (.iconst 1, 1) := by decide +kernel
theorem d_Mac_leave_71 : decode b_Mac_leave 71 = .ok (.goto 4, 3) := by decide +kernel
theorem d_Mac_leave_74 : decode b_Mac_leave 74 = .ok (.iconst 0, 1) := by decide +kernel
theorem d_Mac_leave_75 : decode b_Mac_leave 75 = .ok (.invokevirtual 110, 3) := by decide +kernel
theorem d_Mac_leave_78 : decode b_Mac_leave 78 = .ok (.return_, 1) := by decide +kernel
end
section
theorem d_Mac_step_0 : decode b_Mac_step 0 = .ok (.aload_n 0, 1) := by decide +kernel
theorem d_Mac_step_1 : decode b_Mac_step 1 = .ok (.getfield 12, 3) := by decide +kernel
theorem d_Mac_step_4 : decode b_Mac_step 4 = .ok (.aload_n 1, 1) := by decide +kernel
theorem d_Mac_step_5 : decode b_Mac_step 5 = .ok (.getfield 113, 3) := by decide +kernel
theorem d_Mac_step_8 : decode b_Mac_step 8 = .ok (.aload_n 1, 1) := by decide +kernel
theorem d_Mac_step_9 : decode b_Mac_step 9 = .ok (.getfield 116, 3) := by decide +kernel
theorem d_Mac_step_12 : decode b_Mac_step 12 = .ok (.invokevirtual 119, 3) := by decide +kernel
theorem d_Mac_step_15 : decode b_Mac_step 15 = .ok (.istore_n 2, 1) := by decide +kernel
theorem d_Mac_step_16 : decode b_Mac_step 16 = .ok (.iload_n 2, 1) := by decide +kernel
theorem d_Mac_step_17 : decode b_Mac_step 17 = .ok (.bipush 31, 2) := by decide +kernel
theorem d_Mac_step_19 : decode b_Mac_step 19 = .ok (.iand, 1) := by decide +kernel
theorem d_Mac_step_20 : decode b_Mac_step 20 = .ok (.istore_n 3, 1) := by decide +kernel
theorem d_Mac_step_21 : decode b_Mac_step 21 = .ok (.iload_n 2, 1) := by decide +kernel
theorem d_Mac_step_22 : decode b_Mac_step 22 = .ok (.iconst 5, 1) := by decide +kernel
theorem d_Mac_step_23 : decode b_Mac_step 23 = .ok (.ishr, 1) := by decide +kernel
theorem d_Mac_step_24 : decode b_Mac_step 24 = .ok (.istore 4, 2) := by decide +kernel
theorem d_Mac_step_26 : decode b_Mac_step 26 = .ok (.aload_n 0, 1) := by decide +kernel
theorem d_Mac_step_27 : decode b_Mac_step 27 = .ok (.aload_n 1, 1) := by decide +kernel
theorem d_Mac_step_28 : decode b_Mac_step 28 = .ok (.iload_n 3, 1) := by decide +kernel
theorem d_Mac_step_29 : decode b_Mac_step 29 = .ok (.invokevirtual 123, 3) := by decide +kernel
theorem d_Mac_step_32 : decode b_Mac_step 32 = .ok (.istore 5, 2) := by decide +kernel
theorem d_Mac_step_34 : decode b_Mac_step 34 = .ok (.aload_n 1, 1) := by decide +kernel
theorem d_Mac_step_35 : decode b_Mac_step 35 = .ok (.getfield 127, 3) := by decide +kernel
theorem d_Mac_step_38 : decode b_Mac_step 38 = .ok (.bipush 12, 2) := by decide +kernel
theorem d_Mac_step_40 : decode b_Mac_step 40 = .ok (.if_icmp .ne 14, 3) := by decide +kernel
theorem d_Mac_step_43 : decode b_Mac_step 43 = .ok (.iload_n 3, 1) := by decide +kernel
theorem d_Mac_step_44 : decode b_Mac_step 44 = .ok (.invokestatic 130, 3) := by decide +kernel
theorem d_Mac_step_47 : decode b_Mac_step 47 = .ok (.ifCond .eq 7, 3) := by decide +kernel
theorem d_Mac_step_50 : decode b_Mac_step 50 = .ok (.iconst 1, 1) := by decide +kernel
theorem d_Mac_step_51 : decode b_Mac_step 51 = .ok (.goto 4, 3) := by decide +kernel
theorem d_Mac_step_54 : decode b_Mac_step 54 = .ok (.iconst 0, 1) := by decide +kernel
theorem d_Mac_step_55 : decode b_Mac_step 55 = .ok (.istore 6, 2) := by decide +kernel
theorem d_Mac_step_57 : decode b_Mac_step 57 = .ok (.aload_n 1, 1) := by decide +kernel
theorem d_Mac_step_58 : decode b_Mac_step 58 = .ok (.getfield 104, 3) := by decide +kernel
theorem d_Mac_step_61 : decode b_Mac_step 61 = .ok (.iload 5, 2) := by decide +kernel
theorem d_Mac_step_63 : decode b_Mac_step 63 = .ok (.if_icmp .lt 21, 3) := by decide +kernel
theorem d_Mac_step_66 : decode b_Mac_step 66 = .ok (.aload_n 1, 1) := by decide +kernel
theorem d_Mac_step_67 : decode b_Mac_step 67 = .ok (.getfield 127, 3) := by decide +kernel
theorem d_Mac_step_70 : decode b_Mac_step 70 = .ok (.iload_n 3, 1) := by decide +kernel
theorem d_Mac_step_71 : decode b_Mac_step 71 = .ok (.iload 4, 2) := by decide +kernel
theorem d_Mac_step_73 : decode b_Mac_step 73 = .ok (.invokestatic 134, 3) := by decide +kernel
theorem d_Mac_step_76 : decode b_Mac_step 76 = .ok (.if_icmp .lt 8, 3) := by decide +kernel
theorem d_Mac_step_79 : decode b_Mac_step 79 = .ok (.iload 6, 2) := by decide +kernel
theorem d_Mac_step_81 : decode b_Mac_step 81 = .ok (.ifCond .eq 8, 3) := by decide +kernel
theorem d_Mac_step_84 : decode b_Mac_step 84 = .ok (.aload_n 1, 1) := by decide +kernel
theorem d_Mac_step_85 : decode b_Mac_step 85 = .ok (.invokevirtual 137, 3) := by decide +kernel
theorem d_Mac_step_88 : decode b_Mac_step 88 = .ok (.return_, 1) := by decide +kernel
theorem d_Mac_step_89 : decode b_Mac_step 89 = .ok (.aload_n 1, 1) := by decide +kernel
theorem d_Mac_step_90 : decode b_Mac_step 90 = .ok (.dup, 1) := by decide +kernel
theorem d_Mac_step_91 : decode b_Mac_step 91 = .ok (.getfield 104, 3) := by decide +kernel
theorem d_Mac_step_94 : decode b_Mac_step 94 = .ok (.iload 5, 2) := by decide +kernel
theorem d_Mac_step_96 : decode b_Mac_step 96 = .ok (.isub, 1) := by decide +kernel
theorem d_Mac_step_97 : decode b_Mac_step 97 = .ok (.putfield 104, 3) := by decide +kernel
theorem d_Mac_step_100 : decode b_Mac_step 100 = .ok (.aload_n 1, 1) := by decide +kernel
theorem d_Mac_step_101 : decode b_Mac_step 101 = .ok (.dup, 1) := by decide +kernel
theorem d_Mac_step_102 : decode b_Mac_step 102 = .ok (.getfield 116, 3) := by decide +kernel
theorem d_Mac_step_105 : decode b_Mac_step 105 = .ok (.iconst 1, 1) := by decide +kernel
theorem d_Mac_step_106 : decode b_Mac_step 106 = .ok (.iadd, 1) := by decide +kernel
theorem d_Mac_step_107 : decode b_Mac_step 107 = .ok (.putfield 116, 3) := by decide +kernel
theorem d_Mac_step_110 : decode b_Mac_step 110 = .ok (.iload_n 3, 1) := by decide +kernel
theorem d_Mac_step_111 : decode b_Mac_step 111 = .ok (.tableswitch 257 0 28 #[129, 257, 138, 257, 146, 257, 257, 257, 257, 257, 257, 257, 155, 167, 257, 175, 257, 257, 257, 257, 257, 257, 183, 191, 199, 207, 225, 237, 249], 129) := by decide +kernel
theorem d_Mac_step_240 : decode b_Mac_step 240 = .ok (.aload_n 1, 1) := by decide +kernel
theorem d_Mac_step_241 : decode b_Mac_step 241 = .ok (.iconst 1, 1) := by decide +kernel
theorem d_Mac_step_242 : decode b_Mac_step 242 = .ok (.iconst 0, 1) := by decide +kernel
theorem d_Mac_step_243 : decode b_Mac_step 243 = .ok (.invokevirtual 140, 3) := by decide +kernel
theorem d_Mac_step_246 : decode b_Mac_step 246 = .ok (.goto 134, 3) := by decide +kernel
theorem d_Mac_step_249 : decode b_Mac_step 249 = .ok (.aload_n 1, 1) := by decide +kernel
theorem d_Mac_step_250 : decode b_Mac_step 250 = .ok (.invokevirtual 144, 3) := by decide +kernel
theorem d_Mac_step_253 : decode b_Mac_step 253 = .ok (.pop, 1) := by decide +kernel
theorem d_Mac_step_254 : decode b_Mac_step 254 = .ok (.goto 126, 3) := by decide +kernel
theorem d_Mac_step_257 : decode b_Mac_step 257 = .ok (.aload_n 1, 1) := by decide +kernel
theorem d_Mac_step_258 : decode b_Mac_step 258 = .ok (.iload 4, 2) := by decide +kernel
theorem d_Mac_step_260 : decode b_Mac_step 260 = .ok (.invokevirtual 148, 3) := by decide +kernel
theorem d_Mac_step_263 : decode b_Mac_step 263 = .ok (.goto 117, 3) := by decide +kernel
theorem d_Mac_step_266 : decode b_Mac_step 266 = .ok (.aload_n 0, 1) := by decide +kernel
theorem d_Mac_step_267 : decode b_Mac_step 267 = .ok (.aload_n 1, 1) := by decide +kernel
theorem d_Mac_step_268 : decode b_Mac_step 268 = .ok (.aload_n 1, 1) := by decide +kernel
theorem d_Mac_step_269 : decode b_Mac_step 269 = .ok (.invokevirtual 144, 3) := by decide +kernel
theorem d_Mac_step_272 : decode b_Mac_step 272 = .ok (.invokevirtual 151, 3) := by decide +kernel
theorem d_Mac_step_275 : decode b_Mac_step 275 = .ok (.goto 105, 3) := by decide +kernel
theorem d_Mac_step_278 : decode b_Mac_step 278 = .ok (.aload_n 0, 1) := by decide +kernel
theorem d_Mac_step_279 : decode b_Mac_step 279 = .ok (.aload_n 1, 1) := by decide +kernel
theorem d_Mac_step_280 : decode b_Mac_step 280 = .ok (.invokevirtual 155, 3) := by decide +kernel
theorem d_Mac_step_283 : decode b_Mac_step 283 = .ok (.goto 97, 3) := by decide +kernel
theorem d_Mac_step_286 : decode b_Mac_step 286 = .ok (.aload_n 0, 1) := by decide +kernel
theorem d_Mac_step_287 : decode b_Mac_step 287 = .ok (.aload_n 1, 1) := by decide +kernel
theorem d_Mac_step_288 : decode b_Mac_step 288 = .ok (.invokevirtual 158, 3) := by decide +kernel
theorem d_Mac_step_291 : decode b_Mac_step 291 = .ok (.goto 89, 3) := by decide +kernel
theorem d_Mac_step_294 : decode b_Mac_step 294 = .ok (.aload_n 0, 1) := by decide +kernel
theorem d_Mac_step_295 : decode b_Mac_step 295 = .ok (.aload_n 1, 1) := by decide +kernel
theorem d_Mac_step_296 : decode b_Mac_step 296 = .ok (.invokevirtual 161, 3) := by decide +kernel
theorem d_Mac_step_299 : decode b_Mac_step 299 = .ok (.goto 81, 3) := by decide +kernel
theorem d_Mac_step_302 : decode b_Mac_step 302 = .ok (.aload_n 0, 1) := by decide +kernel
theorem d_Mac_step_303 : decode b_Mac_step 303 = .ok (.aload_n 1, 1) := by decide +kernel
theorem d_Mac_step_304 : decode b_Mac_step 304 = .ok (.invokevirtual 164, 3) := by decide +kernel
theorem d_Mac_step_307 : decode b_Mac_step 307 = .ok (.goto 73, 3) := by decide +kernel
theorem d_Mac_step_310 : decode b_Mac_step 310 = .ok (.aload_n 0, 1) := by decide +kernel
theorem d_Mac_step_311 : decode b_Mac_step 311 = .ok (.aload_n 1, 1) := by decide +kernel
theorem d_Mac_step_312 : decode b_Mac_step 312 = .ok (.invokevirtual 167, 3) := by decide +kernel
theorem d_Mac_step_315 : decode b_Mac_step 315 = .ok (.goto 65, 3) := by decide +kernel
theorem d_Mac_step_318 : decode b_Mac_step 318 = .ok (.aload_n 0, 1) := by decide +kernel
theorem d_Mac_step_319 : decode b_Mac_step 319 = .ok (.getfield 21, 3) := by decide +kernel
theorem d_Mac_step_322 : decode b_Mac_step 322 = .ok (.aload_n 1, 1) := by decide +kernel
theorem d_Mac_step_323 : decode b_Mac_step 323 = .ok (.getfield 170, 3) := by decide +kernel
theorem d_Mac_step_326 : decode b_Mac_step 326 = .ok (.aload_n 1, 1) := by decide +kernel
theorem d_Mac_step_327 : decode b_Mac_step 327 = .ok (.invokevirtual 144, 3) := by decide +kernel
theorem d_Mac_step_330 : decode b_Mac_step 330 = .ok (.invokevirtual 173, 3) := by decide +kernel
theorem d_Mac_step_333 : decode b_Mac_step 333 = .ok (.goto 47, 3) := by decide +kernel
theorem d_Mac_step_336 : decode b_Mac_step 336 = .ok (.aload_n 1, 1) := by decide +kernel
theorem d_Mac_step_337 : decode b_Mac_step 337 = .ok (.iconst 1, 1) := by decide +kernel
theorem d_Mac_step_338 : decode b_Mac_step 338 = .ok (.aload_n 1, 1) := by decide +kernel
theorem d_Mac_step_339 : decode b_Mac_step 339 = .ok (.invokevirtual 144, 3) := by decide +kernel
theorem d_Mac_step_342 : decode b_Mac_step 342 = .ok (.invokevirtual 140, 3) := by decide +kernel
theorem d_Mac_step_345 : decode b_Mac_step 345 = .ok (.goto 35, 3) := by decide +kernel
theorem d_Mac_step_348 : decode b_Mac_step 348 = .ok (.aload_n 1, 1) := by decide +kernel
theorem d_Mac_step_349 : decode b_Mac_step 349 = .ok (.iconst 0, 1) := by decide +kernel
theorem d_Mac_step_350 : decode b_Mac_step 350 = .ok (.aload_n 1, 1) := by decide +kernel
theorem d_Mac_step_351 : decode b_Mac_step 351 = .ok (.invokevirtual 144, 3) := by decide +kernel
theorem d_Mac_step_354 : decode b_Mac_step 354 = .ok (.invokevirtual 140, 3) := by decide +kernel
theorem d_Mac_step_357 : decode b_Mac_step 357 = .ok (.goto 23, 3) := by decide +kernel
theorem d_Mac_step_360 : decode b_Mac_step 360 = .ok (.aload_n 0, 1) := by decide +kernel
theorem d_Mac_step_361 : decode b_Mac_step 361 = .ok (.aload_n 1, 1) := by decide +kernel
theorem d_Mac_step_362 : decode b_Mac_step 362 = .ok (.invokevirtual 176, 3) := by decide +kernel
theorem d_Mac_step_365 : decode b_Mac_step 365 = .ok (.goto 15, 3) := by decide +kernel
theorem d_Mac_step_368 : decode b_Mac_step 368 = .ok (.aload_n 1, 1) := by decide +kernel
theorem d_Mac_step_369 : decode b_Mac_step 369 = .ok (.aload_n 0, 1) := by decide +kernel
theorem d_Mac_step_370 : decode b_Mac_step 370 = .ok (.aload_n 1, 1) := by decide +kernel
theorem d_Mac_step_371 : decode b_Mac_step 371 = .ok (.iload_n 3, 1) := by decide +kernel
theorem d_Mac_step_372 : decode b_Mac_step 372 = .ok (.iload 4, 2) := by decide +kernel
theorem d_Mac_step_374 : decode b_Mac_step 374 = .ok (.invokevirtual 179, 3) := by decide +kernel
theorem d_Mac_step_377 : decode b_Mac_step 377 = .ok (.invokevirtual 110, 3) := by decide +kernel
theorem d_Mac_step_380 : decode b_Mac_step 380 = .ok (.return_, 1) := by decide +kernel
theorem d_Mac_priceOf_0 : decode b_Mac_priceOf 0 = .ok (.getstatic 183, 3) := by decide +kernel
theorem d_Mac_priceOf_3 : decode b_Mac_priceOf 3 = .ok (.iload_n 2, 1) := by decide +kernel
theorem d_Mac_priceOf_4 : decode b_Mac_priceOf 4 = .ok (.iaload, 1) := by decide +kernel
theorem d_Mac_priceOf_5 : decode b_Mac_priceOf 5 = .ok (.istore_n 3, 1) := by decide +kernel
theorem d_Mac_priceOf_6 : decode b_Mac_priceOf 6 = .ok (.iload_n 2, 1) := by decide +kernel
theorem d_Mac_priceOf_7 : decode b_Mac_priceOf 7 = .ok (.lookupswitch 115 #[(15, 33), (22, 79), (24, 96)], 33) := by decide +kernel
theorem d_Mac_priceOf_40 : decode b_Mac_priceOf 40 = .ok (.aload_n 0, 1) := by decide +kernel
theorem d_Mac_priceOf_41 : decode b_Mac_priceOf 41 = .ok (.getfield 12, 3) := by decide +kernel
theorem d_Mac_priceOf_44 : decode b_Mac_priceOf 44 = .ok (.aload_n 1, 1) := by decide +kernel
theorem d_Mac_priceOf_45 : decode b_Mac_priceOf 45 = .ok (.getfield 170, 3) := by decide +kernel
theorem d_Mac_priceOf_48 : decode b_Mac_priceOf 48 = .ok (.aload_n 1, 1) := by decide +kernel
theorem d_Mac_priceOf_49 : decode b_Mac_priceOf 49 = .ok (.iconst 0, 1) := by decide +kernel
theorem d_Mac_priceOf_50 : decode b_Mac_priceOf 50 = .ok (.invokevirtual 187, 3) := by decide +kernel
theorem d_Mac_priceOf_53 : decode b_Mac_priceOf 53 = .ok (.invokevirtual 191, 3) := by decide +kernel
theorem d_Mac_priceOf_56 : decode b_Mac_priceOf 56 = .ok (.ifCond .ne 15, 3) := by decide +kernel
theorem d_Mac_priceOf_59 : decode b_Mac_priceOf 59 = .ok (.aload_n 1, 1) := by decide +kernel
theorem d_Mac_priceOf_60 : decode b_Mac_priceOf 60 = .ok (.iconst 1, 1) := by decide +kernel
theorem d_Mac_priceOf_61 : decode b_Mac_priceOf 61 = .ok (.invokevirtual 187, 3) := by decide +kernel
theorem d_Mac_priceOf_64 : decode b_Mac_priceOf 64 = .ok (.ifCond .eq 7, 3) := by decide +kernel
theorem d_Mac_priceOf_67 : decode b_Mac_priceOf 67 = .ok (.iconst 1, 1) := by decide +kernel
theorem d_Mac_priceOf_68 : decode b_Mac_priceOf 68 = .ok (.goto 4, 3) := by decide +kernel
theorem d_Mac_priceOf_71 : decode b_Mac_priceOf 71 = .ok (.iconst 0, 1) := by decide +kernel
theorem d_Mac_priceOf_72 : decode b_Mac_priceOf 72 = .ok (.istore 4, 2) := by decide +kernel
theorem d_Mac_priceOf_74 : decode b_Mac_priceOf 74 = .ok (.iload 4, 2) := by decide +kernel
theorem d_Mac_priceOf_76 : decode b_Mac_priceOf 76 = .ok (.ifCond .eq 8, 3) := by decide +kernel
theorem d_Mac_priceOf_79 : decode b_Mac_priceOf 79 = .ok (.bipush 40, 2) := by decide +kernel
theorem d_Mac_priceOf_81 : decode b_Mac_priceOf 81 = .ok (.goto 4, 3) := by decide +kernel
theorem d_Mac_priceOf_84 : decode b_Mac_priceOf 84 = .ok (.iload_n 3, 1) := by decide +kernel
theorem d_Mac_priceOf_85 : decode b_Mac_priceOf 85 = .ok (.ireturn, 1) := by decide +kernel
theorem d_Mac_priceOf_86 : decode b_Mac_priceOf 86 = .ok (.aload_n 1, 1) := by decide +kernel
theorem d_Mac_priceOf_87 : decode b_Mac_priceOf 87 = .ok (.iconst 2, 1) := by decide +kernel
theorem d_Mac_priceOf_88 : decode b_Mac_priceOf 88 = .ok (.invokevirtual 187, 3) := by decide +kernel
theorem d_Mac_priceOf_91 : decode b_Mac_priceOf 91 = .ok (.ifCond .eq 10, 3) := by decide +kernel
theorem d_Mac_priceOf_94 : decode b_Mac_priceOf 94 = .ok (.iload_n 3, 1) := by decide +kernel
theorem d_Mac_priceOf_95 : decode b_Mac_priceOf 95 = .ok (.bipush 20, 2) := by decide +kernel
theorem d_Mac_priceOf_97 : decode b_Mac_priceOf 97 = .ok (.iadd, 1) := by decide +kernel
theorem d_Mac_priceOf_98 : decode b_Mac_priceOf 98 = .ok (.goto 4, 3) := by decide +kernel
theorem d_Mac_priceOf_101 : decode b_Mac_priceOf 101 = .ok (.iload_n 3, 1) := by decide +kernel
theorem d_Mac_priceOf_102 : decode b_Mac_priceOf 102 = .ok (.ireturn, 1) := by decide +kernel
theorem d_Mac_priceOf_103 : decode b_Mac_priceOf 103 = .ok (.iload_n 3, 1) := by decide +kernel
theorem d_Mac_priceOf_104 : decode b_Mac_priceOf 104 = .ok (.iconst 2, 1) := by decide +kernel
theorem d_Mac_priceOf_105 : decode b_Mac_priceOf 105 = .ok (.iconst 0, 1) := by decide +kernel
theorem d_Mac_priceOf_106 : decode b_Mac_priceOf 106 = .ok (.aload_n 1, 1) := by decide +kernel
theorem d_Mac_priceOf_107 : decode b_Mac_priceOf 107 = .ok (.iconst 2, 1) := by decide +kernel
theorem d_Mac_priceOf_108 : decode b_Mac_priceOf 108 = .ok (.invokevirtual 187, 3) := by decide +kernel
theorem d_Mac_priceOf_111 : decode b_Mac_priceOf 111 = .ok (.bipush 24, 2) := by decide +kernel
theorem d_Mac_priceOf_113 : decode b_Mac_priceOf 113 = .ok (.invokestatic 194, 3) := by decide +kernel
theorem d_Mac_priceOf_116 : decode b_Mac_priceOf 116 = .ok (.invokestatic 199, 3) := by decide +kernel
theorem d_Mac_priceOf_119 : decode b_Mac_priceOf 119 = .ok (.imul, 1) := by decide +kernel
theorem d_Mac_priceOf_120 : decode b_Mac_priceOf 120 = .ok (.iadd, 1) := by decide +kernel
theorem d_Mac_priceOf_121 : decode b_Mac_priceOf 121 = .ok (.ireturn, 1) := by decide +kernel
theorem d_Mac_priceOf_122 : decode b_Mac_priceOf 122 = .ok (.iload_n 3, 1) := by decide +kernel
theorem d_Mac_priceOf_123 : decode b_Mac_priceOf 123 = .ok (.ireturn, 1) := by decide +kernel
theorem d_Mac_needsOf_0 : decode b_Mac_needsOf 0 = .ok (.iload_n 0, 1) := by decide +kernel
theorem d_Mac_needsOf_1 : decode b_Mac_needsOf 1 = .ok (.lookupswitch 54 #[(3, 27), (4, 40)], 27) := by decide +kernel
theorem d_Mac_needsOf_28 : decode b_Mac_needsOf 28 = .ok (.iload_n 1, 1) := by decide +kernel
theorem d_Mac_needsOf_29 : decode b_Mac_needsOf 29 = .ok (.ifCond .ge 8, 3) := by decide +kernel
theorem d_Mac_needsOf_32 : decode b_Mac_needsOf 32 = .ok (.bipush 13, 2) := by decide +kernel
theorem d_Mac_needsOf_34 : decode b_Mac_needsOf 34 = .ok (.goto 6, 3) := by decide +kernel
theorem d_Mac_needsOf_37 : decode b_Mac_needsOf 37 = .ok (.iload_n 1, 1) := by decide +kernel
theorem d_Mac_needsOf_38 : decode b_Mac_needsOf 38 = .ok (.iconst 1, 1) := by decide +kernel
theorem d_Mac_needsOf_39 : decode b_Mac_needsOf 39 = .ok (.iadd, 1) := by decide +kernel
theorem d_Mac_needsOf_40 : decode b_Mac_needsOf 40 = .ok (.ireturn, 1) := by decide +kernel
theorem d_Mac_needsOf_41 : decode b_Mac_needsOf 41 = .ok (.iload_n 1, 1) := by decide +kernel
theorem d_Mac_needsOf_42 : decode b_Mac_needsOf 42 = .ok (.iconst 1, 1) := by decide +kernel
theorem d_Mac_needsOf_43 : decode b_Mac_needsOf 43 = .ok (.if_icmp .ge 8, 3) := by decide +kernel
theorem d_Mac_needsOf_46 : decode b_Mac_needsOf 46 = .ok (.bipush 13, 2) := by decide +kernel
theorem d_Mac_needsOf_48 : decode b_Mac_needsOf 48 = .ok (.goto 6, 3) := by decide +kernel
theorem d_Mac_needsOf_51 : decode b_Mac_needsOf 51 = .ok (.iload_n 1, 1) := by decide +kernel
theorem d_Mac_needsOf_52 : decode b_Mac_needsOf 52 = .ok (.iconst 1, 1) := by decide +kernel
theorem d_Mac_needsOf_53 : decode b_Mac_needsOf 53 = .ok (.iadd, 1) := by decide +kernel
theorem d_Mac_needsOf_54 : decode b_Mac_needsOf 54 = .ok (.ireturn, 1) := by decide +kernel
theorem d_Mac_needsOf_55 : decode b_Mac_needsOf 55 = .ok (.getstatic 202, 3) := by decide +kernel
theorem d_Mac_needsOf_58 : decode b_Mac_needsOf 58 = .ok (.iload_n 0, 1) := by decide +kernel
theorem d_Mac_needsOf_59 : decode b_Mac_needsOf 59 = .ok (.iaload, 1) := by decide +kernel
theorem d_Mac_needsOf_60 : decode b_Mac_needsOf 60 = .ok (.ireturn, 1) := by decide +kernel
theorem d_Mac_onlyPushes_0 : decode b_Mac_onlyPushes 0 = .ok (.iload_n 0, 1) := by decide +kernel
theorem d_Mac_onlyPushes_1 : decode b_Mac_onlyPushes 1 = .ok (.iconst 1, 1) := by decide +kernel
theorem d_Mac_onlyPushes_2 : decode b_Mac_onlyPushes 2 = .ok (.if_icmp .eq 20, 3) := by decide +kernel
theorem d_Mac_onlyPushes_5 : decode b_Mac_onlyPushes 5 = .ok (.iload_n 0, 1) := by decide +kernel
theorem d_Mac_onlyPushes_6 : decode b_Mac_onlyPushes 6 = .ok (.iconst 3, 1) := by decide +kernel
theorem d_Mac_onlyPushes_7 : decode b_Mac_onlyPushes 7 = .ok (.if_icmp .eq 15, 3) := by decide +kernel
theorem d_Mac_onlyPushes_10 : decode b_Mac_onlyPushes 10 = .ok (.iload_n 0, 1) := by decide +kernel
theorem d_Mac_onlyPushes_11 : decode b_Mac_onlyPushes 11 = .ok (.bipush 17, 2) := by decide +kernel
theorem d_Mac_onlyPushes_13 : decode b_Mac_onlyPushes 13 = .ok (.if_icmp .lt 13, 3) := by decide +kernel
theorem d_Mac_onlyPushes_16 : decode b_Mac_onlyPushes 16 = .ok (.iload_n 0, 1) := by decide +kernel
theorem d_Mac_onlyPushes_17 : decode b_Mac_onlyPushes 17 = .ok (.bipush 21, 2) := by decide +kernel
theorem d_Mac_onlyPushes_19 : decode b_Mac_onlyPushes 19 = .ok (.if_icmp .gt 7, 3) := by decide +kernel
theorem d_Mac_onlyPushes_22 : decode b_Mac_onlyPushes 22 = .ok (.iconst 1, 1) := by decide +kernel
theorem d_Mac_onlyPushes_23 : decode b_Mac_onlyPushes 23 = .ok (.goto 4, 3) := by decide +kernel
theorem d_Mac_onlyPushes_26 : decode b_Mac_onlyPushes 26 = .ok (.iconst 0, 1) := by decide +kernel
theorem d_Mac_onlyPushes_27 : decode b_Mac_onlyPushes 27 = .ok (.ireturn, 1) := by decide +kernel
theorem d_Mac_resultOf_0 : decode b_Mac_resultOf 0 = .ok (.iload_n 2, 1) := by decide +kernel
theorem d_Mac_resultOf_1 : decode b_Mac_resultOf 1 = .ok (.tableswitch 173 1 21 #[99, 173, 101, 173, 173, 173, 173, 173, 173, 173, 107, 173, 173, 120, 173, 136, 148, 153, 158, 163, 168], 99) := by decide +kernel
theorem d_Mac_resultOf_100 : decode b_Mac_resultOf 100 = .ok (.iload_n 3, 1) := by decide +kernel
theorem d_Mac_resultOf_101 : decode b_Mac_resultOf 101 = .ok (.ireturn, 1) := by decide +kernel
theorem d_Mac_resultOf_102 : decode b_Mac_resultOf 102 = .ok (.aload_n 1, 1) := by decide +kernel
theorem d_Mac_resultOf_103 : decode b_Mac_resultOf 103 = .ok (.iload_n 3, 1) := by decide +kernel
theorem d_Mac_resultOf_104 : decode b_Mac_resultOf 104 = .ok (.invokevirtual 187, 3) := by decide +kernel
theorem d_Mac_resultOf_107 : decode b_Mac_resultOf 107 = .ok (.ireturn, 1) := by decide +kernel
theorem d_Mac_resultOf_108 : decode b_Mac_resultOf 108 = .ok (.aload_n 1, 1) := by decide +kernel
theorem d_Mac_resultOf_109 : decode b_Mac_resultOf 109 = .ok (.invokevirtual 144, 3) := by decide +kernel
theorem d_Mac_resultOf_112 : decode b_Mac_resultOf 112 = .ok (.ifCond .ne 7, 3) := by decide +kernel
theorem d_Mac_resultOf_115 : decode b_Mac_resultOf 115 = .ok (.iconst 1, 1) := by decide +kernel
theorem d_Mac_resultOf_116 : decode b_Mac_resultOf 116 = .ok (.goto 4, 3) := by decide +kernel
theorem d_Mac_resultOf_119 : decode b_Mac_resultOf 119 = .ok (.iconst 0, 1) := by decide +kernel
theorem d_Mac_resultOf_120 : decode b_Mac_resultOf 120 = .ok (.ireturn, 1) := by decide +kernel
theorem d_Mac_resultOf_121 : decode b_Mac_resultOf 121 = .ok (.aload_n 0, 1) := by decide +kernel
theorem d_Mac_resultOf_122 : decode b_Mac_resultOf 122 = .ok (.getfield 12, 3) := by decide +kernel
theorem d_Mac_resultOf_125 : decode b_Mac_resultOf 125 = .ok (.aload_n 1, 1) := by decide +kernel
theorem d_Mac_resultOf_126 : decode b_Mac_resultOf 126 = .ok (.getfield 170, 3) := by decide +kernel
theorem d_Mac_resultOf_129 : decode b_Mac_resultOf 129 = .ok (.aload_n 1, 1) := by decide +kernel
theorem d_Mac_resultOf_130 : decode b_Mac_resultOf 130 = .ok (.invokevirtual 144, 3) := by decide +kernel
theorem d_Mac_resultOf_133 : decode b_Mac_resultOf 133 = .ok (.invokevirtual 191, 3) := by decide +kernel
theorem d_Mac_resultOf_136 : decode b_Mac_resultOf 136 = .ok (.ireturn, 1) := by decide +kernel
theorem d_Mac_resultOf_137 : decode b_Mac_resultOf 137 = .ok (.aload_n 0, 1) := by decide +kernel
theorem d_Mac_resultOf_138 : decode b_Mac_resultOf 138 = .ok (.getfield 12, 3) := by decide +kernel
theorem d_Mac_resultOf_141 : decode b_Mac_resultOf 141 = .ok (.aload_n 1, 1) := by decide +kernel
theorem d_Mac_resultOf_142 : decode b_Mac_resultOf 142 = .ok (.invokevirtual 144, 3) := by decide +kernel
theorem d_Mac_resultOf_145 : decode b_Mac_resultOf 145 = .ok (.invokevirtual 205, 3) := by decide +kernel
theorem d_Mac_resultOf_148 : decode b_Mac_resultOf 148 = .ok (.ireturn, 1) := by decide +kernel
theorem d_Mac_resultOf_149 : decode b_Mac_resultOf 149 = .ok (.aload_n 1, 1) := by decide +kernel
theorem d_Mac_resultOf_150 : decode b_Mac_resultOf 150 = .ok (.getfield 170, 3) := by decide +kernel
theorem d_Mac_resultOf_153 : decode b_Mac_resultOf 153 = .ok (.ireturn, 1) := by decide +kernel
theorem d_Mac_resultOf_154 : decode b_Mac_resultOf 154 = .ok (.aload_n 1, 1) := by decide +kernel
theorem d_Mac_resultOf_155 : decode b_Mac_resultOf 155 = .ok (.getfield 208, 3) := by decide +kernel
theorem d_Mac_resultOf_158 : decode b_Mac_resultOf 158 = .ok (.ireturn, 1) := by decide +kernel
theorem d_Mac_resultOf_159 : decode b_Mac_resultOf 159 = .ok (.aload_n 1, 1) := by decide +kernel
theorem d_Mac_resultOf_160 : decode b_Mac_resultOf 160 = .ok (.getfield 211, 3) := by decide +kernel
theorem d_Mac_resultOf_163 : decode b_Mac_resultOf 163 = .ok (.ireturn, 1) := by decide +kernel
theorem d_Mac_resultOf_164 : decode b_Mac_resultOf 164 = .ok (.aload_n 1, 1) := by decide +kernel
theorem d_Mac_resultOf_165 : decode b_Mac_resultOf 165 = .ok (.getfield 214, 3) := by decide +kernel
theorem d_Mac_resultOf_168 : decode b_Mac_resultOf 168 = .ok (.ireturn, 1) := by decide +kernel
theorem d_Mac_resultOf_169 : decode b_Mac_resultOf 169 = .ok (.aload_n 1, 1) := by decide +kernel
theorem d_Mac_resultOf_170 : decode b_Mac_resultOf 170 = .ok (.getfield 104, 3) := by decide +kernel
theorem d_Mac_resultOf_173 : decode b_Mac_resultOf 173 = .ok (.ireturn, 1) := by decide +kernel
theorem d_Mac_resultOf_174 : decode b_Mac_resultOf 174 = .ok (.aload_n 1, 1) := by decide +kernel
theorem d_Mac_resultOf_175 : decode b_Mac_resultOf 175 = .ok (.invokevirtual 144, 3) := by decide +kernel
theorem d_Mac_resultOf_178 : decode b_Mac_resultOf 178 = .ok (.istore 4, 2) := by decide +kernel
theorem d_Mac_resultOf_180 : decode b_Mac_resultOf 180 = .ok (.aload_n 1, 1) := by decide +kernel
theorem d_Mac_resultOf_181 : decode b_Mac_resultOf 181 = .ok (.invokevirtual 144, 3) := by decide +kernel
theorem d_Mac_resultOf_184 : decode b_Mac_resultOf 184 = .ok (.istore 5, 2) := by decide +kernel
theorem d_Mac_resultOf_186 : decode b_Mac_resultOf 186 = .ok (.iload_n 2, 1) := by decide +kernel
theorem d_Mac_resultOf_187 : decode b_Mac_resultOf 187 = .ok (.iload 5, 2) := by decide +kernel
theorem d_Mac_resultOf_189 : decode b_Mac_resultOf 189 = .ok (.iload 4, 2) := by decide +kernel
theorem d_Mac_resultOf_191 : decode b_Mac_resultOf 191 = .ok (.invokestatic 217, 3) := by decide +kernel
theorem d_Mac_resultOf_194 : decode b_Mac_resultOf 194 = .ok (.ireturn, 1) := by decide +kernel
theorem d_Mac_reckon_0 : decode b_Mac_reckon 0 = .ok (.iload_n 0, 1) := by decide +kernel
theorem d_Mac_reckon_1 : decode b_Mac_reckon 1 = .ok (.tableswitch 85 5 10 #[39, 43, 47, 51, 63, 74], 39) := by decide +kernel
theorem d_Mac_reckon_40 : decode b_Mac_reckon 40 = .ok (.iload_n 1, 1) := by decide +kernel
theorem d_Mac_reckon_41 : decode b_Mac_reckon 41 = .ok (.iload_n 2, 1) := by decide +kernel
theorem d_Mac_reckon_42 : decode b_Mac_reckon 42 = .ok (.iadd, 1) := by decide +kernel
theorem d_Mac_reckon_43 : decode b_Mac_reckon 43 = .ok (.ireturn, 1) := by decide +kernel
theorem d_Mac_reckon_44 : decode b_Mac_reckon 44 = .ok (.iload_n 1, 1) := by decide +kernel
theorem d_Mac_reckon_45 : decode b_Mac_reckon 45 = .ok (.iload_n 2, 1) := by decide +kernel
theorem d_Mac_reckon_46 : decode b_Mac_reckon 46 = .ok (.isub, 1) := by decide +kernel
theorem d_Mac_reckon_47 : decode b_Mac_reckon 47 = .ok (.ireturn, 1) := by decide +kernel
theorem d_Mac_reckon_48 : decode b_Mac_reckon 48 = .ok (.iload_n 1, 1) := by decide +kernel
theorem d_Mac_reckon_49 : decode b_Mac_reckon 49 = .ok (.iload_n 2, 1) := by decide +kernel
theorem d_Mac_reckon_50 : decode b_Mac_reckon 50 = .ok (.imul, 1) := by decide +kernel
theorem d_Mac_reckon_51 : decode b_Mac_reckon 51 = .ok (.ireturn, 1) := by decide +kernel
theorem d_Mac_reckon_52 : decode b_Mac_reckon 52 = .ok (.iload_n 2, 1) := by decide +kernel
theorem d_Mac_reckon_53 : decode b_Mac_reckon 53 = .ok (.ifCond .ne 7, 3) := by decide +kernel
theorem d_Mac_reckon_56 : decode b_Mac_reckon 56 = .ok (.iconst 0, 1) := by decide +kernel
theorem d_Mac_reckon_57 : decode b_Mac_reckon 57 = .ok (.goto 6, 3) := by decide +kernel
theorem d_Mac_reckon_60 : decode b_Mac_reckon 60 = .ok (.iload_n 1, 1) := by decide +kernel
theorem d_Mac_reckon_61 : decode b_Mac_reckon 61 = .ok (.iload_n 2, 1) := by decide +kernel
theorem d_Mac_reckon_62 : decode b_Mac_reckon 62 = .ok (.idiv, 1) := by decide +kernel
theorem d_Mac_reckon_63 : decode b_Mac_reckon 63 = .ok (.ireturn, 1) := by decide +kernel
theorem d_Mac_reckon_64 : decode b_Mac_reckon 64 = .ok (.iload_n 1, 1) := by decide +kernel
theorem d_Mac_reckon_65 : decode b_Mac_reckon 65 = .ok (.iload_n 2, 1) := by decide +kernel
theorem d_Mac_reckon_66 : decode b_Mac_reckon 66 = .ok (.if_icmp .ge 7, 3) := by decide +kernel
theorem d_Mac_reckon_69 : decode b_Mac_reckon 69 = .ok (.iconst 1, 1) := by decide +kernel
theorem d_Mac_reckon_70 : decode b_Mac_reckon 70 = .ok (.goto 4, 3) := by decide +kernel
theorem d_Mac_reckon_73 : decode b_Mac_reckon 73 = .ok (.iconst 0, 1) := by decide +kernel
theorem d_Mac_reckon_74 : decode b_Mac_reckon 74 = .ok (.ireturn, 1) := by decide +kernel
theorem d_Mac_reckon_75 : decode b_Mac_reckon 75 = .ok (.iload_n 1, 1) := by decide +kernel
theorem d_Mac_reckon_76 : decode b_Mac_reckon 76 = .ok (.iload_n 2, 1) := by decide +kernel
theorem d_Mac_reckon_77 : decode b_Mac_reckon 77 = .ok (.if_icmp .ne 7, 3) := by decide +kernel
theorem d_Mac_reckon_80 : decode b_Mac_reckon 80 = .ok (.iconst 1, 1) := by decide +kernel
theorem d_Mac_reckon_81 : decode b_Mac_reckon 81 = .ok (.goto 4, 3) := by decide +kernel
theorem d_Mac_reckon_84 : decode b_Mac_reckon 84 = .ok (.iconst 0, 1) := by decide +kernel
theorem d_Mac_reckon_85 : decode b_Mac_reckon 85 = .ok (.ireturn, 1) := by decide +kernel
theorem d_Mac_reckon_86 : decode b_Mac_reckon 86 = .ok (.iconst 0, 1) := by decide +kernel
theorem d_Mac_reckon_87 : decode b_Mac_reckon 87 = .ok (.ireturn, 1) := by decide +kernel
theorem d_Mac_jump_0 : decode b_Mac_jump 0 = .ok (.iload_n 2, 1) := by decide +kernel
theorem d_Mac_jump_1 : decode b_Mac_jump 1 = .ok (.ifCond .lt 19, 3) := by decide +kernel
theorem d_Mac_jump_4 : decode b_Mac_jump 4 = .ok (.iload_n 2, 1) := by decide +kernel
theorem d_Mac_jump_5 : decode b_Mac_jump 5 = .ok (.aload_n 0, 1) := by decide +kernel
theorem d_Mac_jump_6 : decode b_Mac_jump 6 = .ok (.getfield 12, 3) := by decide +kernel
theorem d_Mac_jump_9 : decode b_Mac_jump 9 = .ok (.getfield 221, 3) := by decide +kernel
theorem d_Mac_jump_12 : decode b_Mac_jump 12 = .ok (.aload_n 1, 1) := by decide +kernel
theorem d_Mac_jump_13 : decode b_Mac_jump 13 = .ok (.getfield 113, 3) := by decide +kernel
theorem d_Mac_jump_16 : decode b_Mac_jump 16 = .ok (.iaload, 1) := by decide +kernel
theorem d_Mac_jump_17 : decode b_Mac_jump 17 = .ok (.if_icmp .lt 10, 3) := by decide +kernel
theorem d_Mac_jump_20 : decode b_Mac_jump 20 = .ok (.aload_n 1, 1) := by decide +kernel
theorem d_Mac_jump_21 : decode b_Mac_jump 21 = .ok (.invokevirtual 137, 3) := by decide +kernel
theorem d_Mac_jump_24 : decode b_Mac_jump 24 = .ok (.goto 8, 3) := by decide +kernel
theorem d_Mac_jump_27 : decode b_Mac_jump 27 = .ok (.aload_n 1, 1) := by decide +kernel
theorem d_Mac_jump_28 : decode b_Mac_jump 28 = .ok (.iload_n 2, 1) := by decide +kernel
theorem d_Mac_jump_29 : decode b_Mac_jump 29 = .ok (.putfield 116, 3) := by decide +kernel
theorem d_Mac_jump_32 : decode b_Mac_jump 32 = .ok (.return_, 1) := by decide +kernel
theorem d_Mac_jumpIf_0 : decode b_Mac_jumpIf 0 = .ok (.aload_n 1, 1) := by decide +kernel
theorem d_Mac_jumpIf_1 : decode b_Mac_jumpIf 1 = .ok (.invokevirtual 144, 3) := by decide +kernel
theorem d_Mac_jumpIf_4 : decode b_Mac_jumpIf 4 = .ok (.istore_n 2, 1) := by decide +kernel
theorem d_Mac_jumpIf_5 : decode b_Mac_jumpIf 5 = .ok (.aload_n 1, 1) := by decide +kernel
theorem d_Mac_jumpIf_6 : decode b_Mac_jumpIf 6 = .ok (.invokevirtual 144, 3) := by decide +kernel
theorem d_Mac_jumpIf_9 : decode b_Mac_jumpIf 9 = .ok (.ifCond .eq 9, 3) := by decide +kernel
theorem d_Mac_jumpIf_12 : decode b_Mac_jumpIf 12 = .ok (.aload_n 0, 1) := by decide +kernel
theorem d_Mac_jumpIf_13 : decode b_Mac_jumpIf 13 = .ok (.aload_n 1, 1) := by decide +kernel
theorem d_Mac_jumpIf_14 : decode b_Mac_jumpIf 14 = .ok (.iload_n 2, 1) := by decide +kernel
theorem d_Mac_jumpIf_15 : decode b_Mac_jumpIf 15 = .ok (.invokevirtual 151, 3) := by decide +kernel
theorem d_Mac_jumpIf_18 : decode b_Mac_jumpIf 18 = .ok (.return_, 1) := by decide +kernel
theorem d_Mac_store_0 : decode b_Mac_store 0 = .ok (.aload_n 1, 1) := by decide +kernel
theorem d_Mac_store_1 : decode b_Mac_store 1 = .ok (.invokevirtual 144, 3) := by decide +kernel
theorem d_Mac_store_4 : decode b_Mac_store 4 = .ok (.istore_n 2, 1) := by decide +kernel
theorem d_Mac_store_5 : decode b_Mac_store 5 = .ok (.aload_n 1, 1) := by decide +kernel
theorem d_Mac_store_6 : decode b_Mac_store 6 = .ok (.invokevirtual 144, 3) := by decide +kernel
theorem d_Mac_store_9 : decode b_Mac_store 9 = .ok (.istore_n 3, 1) := by decide +kernel
theorem d_Mac_store_10 : decode b_Mac_store 10 = .ok (.iload_n 2, 1) := by decide +kernel
theorem d_Mac_store_11 : decode b_Mac_store 11 = .ok (.invokestatic 224, 3) := by decide +kernel
theorem d_Mac_store_14 : decode b_Mac_store 14 = .ok (.ifCond .ne 8, 3) := by decide +kernel
theorem d_Mac_store_17 : decode b_Mac_store 17 = .ok (.aload_n 1, 1) := by decide +kernel
theorem d_Mac_store_18 : decode b_Mac_store 18 = .ok (.invokevirtual 137, 3) := by decide +kernel
theorem d_Mac_store_21 : decode b_Mac_store 21 = .ok (.return_, 1) := by decide +kernel
theorem d_Mac_store_22 : decode b_Mac_store 22 = .ok (.aload_n 1, 1) := by decide +kernel
theorem d_Mac_store_23 : decode b_Mac_store 23 = .ok (.getfield 170, 3) := by decide +kernel
theorem d_Mac_store_26 : decode b_Mac_store 26 = .ok (.bipush 8, 2) := by decide +kernel
theorem d_Mac_store_28 : decode b_Mac_store 28 = .ok (.imul, 1) := by decide +kernel
theorem d_Mac_store_29 : decode b_Mac_store 29 = .ok (.iload_n 2, 1) := by decide +kernel
theorem d_Mac_store_30 : decode b_Mac_store 30 = .ok (.iadd, 1) := by decide +kernel
theorem d_Mac_store_31 : decode b_Mac_store 31 = .ok (.istore 4, 2) := by decide +kernel
theorem d_Mac_store_33 : decode b_Mac_store 33 = .ok (.aload_n 0, 1) := by decide +kernel
theorem d_Mac_store_34 : decode b_Mac_store 34 = .ok (.getfield 12, 3) := by decide +kernel
theorem d_Mac_store_37 : decode b_Mac_store 37 = .ok (.getfield 227, 3) := by decide +kernel
theorem d_Mac_store_40 : decode b_Mac_store 40 = .ok (.iload 4, 2) := by decide +kernel
theorem d_Mac_store_42 : decode b_Mac_store 42 = .ok (.iaload, 1) := by decide +kernel
theorem d_Mac_store_43 : decode b_Mac_store 43 = .ok (.ifCond .eq 18, 3) := by decide +kernel
theorem d_Mac_store_46 : decode b_Mac_store 46 = .ok (.iload_n 3, 1) := by decide +kernel
theorem d_Mac_store_47 : decode b_Mac_store 47 = .ok (.ifCond .ne 14, 3) := by decide +kernel
theorem d_Mac_store_50 : decode b_Mac_store 50 = .ok (.aload_n 0, 1) := by decide +kernel
theorem d_Mac_store_51 : decode b_Mac_store 51 = .ok (.dup, 1) := by decide +kernel
theorem d_Mac_store_52 : decode b_Mac_store 52 = .ok (.getfield 32, 3) := by decide +kernel
theorem d_Mac_store_55 : decode b_Mac_store 55 = .ok (.bipush 15, 2) := by decide +kernel
theorem d_Mac_store_57 : decode b_Mac_store 57 = .ok (.iadd, 1) := by decide +kernel
theorem d_Mac_store_58 : decode b_Mac_store 58 = .ok (.putfield 32, 3) := by decide +kernel
theorem d_Mac_store_61 : decode b_Mac_store 61 = .ok (.aload_n 0, 1) := by decide +kernel
theorem d_Mac_store_62 : decode b_Mac_store 62 = .ok (.getfield 12, 3) := by decide +kernel
theorem d_Mac_store_65 : decode b_Mac_store 65 = .ok (.getfield 227, 3) := by decide +kernel
theorem d_Mac_store_68 : decode b_Mac_store 68 = .ok (.iload 4, 2) := by decide +kernel
theorem d_Mac_store_70 : decode b_Mac_store 70 = .ok (.iload_n 3, 1) := by decide +kernel
theorem d_Mac_store_71 : decode b_Mac_store 71 = .ok (.iastore, 1) := by decide +kernel
theorem d_Mac_store_72 : decode b_Mac_store 72 = .ok (.return_, 1) := by decide +kernel
theorem d_Mac_callOther_0 : decode b_Mac_callOther 0 = .ok (.aload_n 1, 1) := by decide +kernel
theorem d_Mac_callOther_1 : decode b_Mac_callOther 1 = .ok (.invokevirtual 144, 3) := by decide +kernel
theorem d_Mac_callOther_4 : decode b_Mac_callOther 4 = .ok (.istore_n 2, 1) := by decide +kernel
theorem d_Mac_callOther_5 : decode b_Mac_callOther 5 = .ok (.aload_n 1, 1) := by decide +kernel
theorem d_Mac_callOther_6 : decode b_Mac_callOther 6 = .ok (.invokevirtual 144, 3) := by decide +kernel
theorem d_Mac_callOther_9 : decode b_Mac_callOther 9 = .ok (.istore_n 3, 1) := by decide +kernel
theorem d_Mac_callOther_10 : decode b_Mac_callOther 10 = .ok (.aload_n 1, 1) := by decide +kernel
theorem d_Mac_callOther_11 : decode b_Mac_callOther 11 = .ok (.invokevirtual 144, 3) := by decide +kernel
theorem d_Mac_callOther_14 : decode b_Mac_callOther 14 = .ok (.istore 4, 2) := by decide +kernel
theorem d_Mac_callOther_16 : decode b_Mac_callOther 16 = .ok (.aload_n 1, 1) := by decide +kernel
theorem d_Mac_callOther_17 : decode b_Mac_callOther 17 = .ok (.invokevirtual 144, 3) := by decide +kernel
theorem d_Mac_callOther_20 : decode b_Mac_callOther 20 = .ok (.istore 5, 2) := by decide +kernel
theorem d_Mac_callOther_22 : decode b_Mac_callOther 22 = .ok (.iload 4, 2) := by decide +kernel
theorem d_Mac_callOther_24 : decode b_Mac_callOther 24 = .ok (.ifCond .ge 10, 3) := by decide +kernel
theorem d_Mac_callOther_27 : decode b_Mac_callOther 27 = .ok (.aload_n 1, 1) := by decide +kernel
theorem d_Mac_callOther_28 : decode b_Mac_callOther 28 = .ok (.invokevirtual 137, 3) := by decide +kernel
theorem d_Mac_callOther_31 : decode b_Mac_callOther 31 = .ok (.goto 86, 3) := by decide +kernel
theorem d_Mac_callOther_34 : decode b_Mac_callOther 34 = .ok (.aload_n 0, 1) := by decide +kernel
theorem d_Mac_callOther_35 : decode b_Mac_callOther 35 = .ok (.iload_n 3, 1) := by decide +kernel
theorem d_Mac_callOther_36 : decode b_Mac_callOther 36 = .ok (.invokevirtual 230, 3) := by decide +kernel
theorem d_Mac_callOther_39 : decode b_Mac_callOther 39 = .ok (.ifCond .eq 20, 3) := by decide +kernel
theorem d_Mac_callOther_42 : decode b_Mac_callOther 42 = .ok (.aload_n 0, 1) := by decide +kernel
theorem d_Mac_callOther_43 : decode b_Mac_callOther 43 = .ok (.getfield 12, 3) := by decide +kernel
theorem d_Mac_callOther_46 : decode b_Mac_callOther 46 = .ok (.getfield 233, 3) := by decide +kernel
theorem d_Mac_callOther_49 : decode b_Mac_callOther 49 = .ok (.aload_n 1, 1) := by decide +kernel
theorem d_Mac_callOther_50 : decode b_Mac_callOther 50 = .ok (.getfield 170, 3) := by decide +kernel
theorem d_Mac_callOther_53 : decode b_Mac_callOther 53 = .ok (.iaload, 1) := by decide +kernel
theorem d_Mac_callOther_54 : decode b_Mac_callOther 54 = .ok (.iload 4, 2) := by decide +kernel
theorem d_Mac_callOther_56 : decode b_Mac_callOther 56 = .ok (.if_icmp .ge 11, 3) := by decide +kernel
theorem d_Mac_callOther_59 : decode b_Mac_callOther 59 = .ok (.aload_n 0, 1) := by decide +kernel
theorem d_Mac_callOther_60 : decode b_Mac_callOther 60 = .ok (.aload_n 1, 1) := by decide +kernel
theorem d_Mac_callOther_61 : decode b_Mac_callOther 61 = .ok (.invokevirtual 236, 3) := by decide +kernel
theorem d_Mac_callOther_64 : decode b_Mac_callOther 64 = .ok (.goto 53, 3) := by decide +kernel
theorem d_Mac_callOther_67 : decode b_Mac_callOther 67 = .ok (.iload 4, 2) := by decide +kernel
theorem d_Mac_callOther_69 : decode b_Mac_callOther 69 = .ok (.ifCond .eq 8, 3) := by decide +kernel
theorem d_Mac_callOther_72 : decode b_Mac_callOther 72 = .ok (.bipush 10, 2) := by decide +kernel
theorem d_Mac_callOther_74 : decode b_Mac_callOther 74 = .ok (.goto 4, 3) := by decide +kernel
theorem d_Mac_callOther_77 : decode b_Mac_callOther 77 = .ok (.iconst 0, 1) := by decide +kernel
theorem d_Mac_callOther_78 : decode b_Mac_callOther 78 = .ok (.istore 6, 2) := by decide +kernel
theorem d_Mac_callOther_80 : decode b_Mac_callOther 80 = .ok (.aload_n 0, 1) := by decide +kernel
theorem d_Mac_callOther_81 : decode b_Mac_callOther 81 = .ok (.iload_n 3, 1) := by decide +kernel
theorem d_Mac_callOther_82 : decode b_Mac_callOther 82 = .ok (.iload_n 3, 1) := by decide +kernel
theorem d_Mac_callOther_83 : decode b_Mac_callOther 83 = .ok (.aload_n 1, 1) := by decide +kernel
theorem d_Mac_callOther_84 : decode b_Mac_callOther 84 = .ok (.getfield 170, 3) := by decide +kernel
theorem d_Mac_callOther_87 : decode b_Mac_callOther 87 = .ok (.iload 4, 2) := by decide +kernel
theorem d_Mac_callOther_89 : decode b_Mac_callOther 89 = .ok (.iload 5, 2) := by decide +kernel
theorem d_Mac_callOther_91 : decode b_Mac_callOther 91 = .ok (.aload_n 0, 1) := by decide +kernel
theorem d_Mac_callOther_92 : decode b_Mac_callOther 92 = .ok (.aload_n 1, 1) := by decide +kernel
theorem d_Mac_callOther_93 : decode b_Mac_callOther 93 = .ok (.iload_n 2, 1) := by decide +kernel
theorem d_Mac_callOther_94 : decode b_Mac_callOther 94 = .ok (.invokevirtual 239, 3) := by decide +kernel
theorem d_Mac_callOther_97 : decode b_Mac_callOther 97 = .ok (.iload 6, 2) := by decide +kernel
theorem d_Mac_callOther_99 : decode b_Mac_callOther 99 = .ok (.iadd, 1) := by decide +kernel
theorem d_Mac_callOther_100 : decode b_Mac_callOther 100 = .ok (.invokevirtual 42, 3) := by decide +kernel
theorem d_Mac_callOther_103 : decode b_Mac_callOther 103 = .ok (.aload_n 0, 1) := by decide +kernel
theorem d_Mac_callOther_104 : decode b_Mac_callOther 104 = .ok (.getfield 12, 3) := by decide +kernel
theorem d_Mac_callOther_107 : decode b_Mac_callOther 107 = .ok (.aload_n 1, 1) := by decide +kernel
theorem d_Mac_callOther_108 : decode b_Mac_callOther 108 = .ok (.getfield 170, 3) := by decide +kernel
theorem d_Mac_callOther_111 : decode b_Mac_callOther 111 = .ok (.iload_n 3, 1) := by decide +kernel
theorem d_Mac_callOther_112 : decode b_Mac_callOther 112 = .ok (.iload 4, 2) := by decide +kernel
theorem d_Mac_callOther_114 : decode b_Mac_callOther 114 = .ok (.invokevirtual 46, 3) := by decide +kernel
theorem d_Mac_callOther_117 : decode b_Mac_callOther 117 = .ok (.return_, 1) := by decide +kernel
end
section
theorem d_Mac_delegate_0 : decode b_Mac_delegate 0 = .ok (.aload_n 1, 1) := by decide +kernel
theorem d_Mac_delegate_1 : decode b_Mac_delegate 1 = .ok (.invokevirtual 144, 3) := by decide +kernel
theorem d_Mac_delegate_4 : decode b_Mac_delegate 4 = .ok (.istore_n 2, 1) := by decide +kernel
theorem d_Mac_delegate_5 : decode b_Mac_delegate 5 = .ok (.aload_n 1, 1) := by decide +kernel
theorem d_Mac_delegate_6 : decode b_Mac_delegate 6 = .ok (.invokevirtual 144, 3) := by decide +kernel
theorem d_Mac_delegate_9 : decode b_Mac_delegate 9 = .ok (.istore_n 3, 1) := by decide +kernel
theorem d_Mac_delegate_10 : decode b_Mac_delegate 10 = .ok (.aload_n 1, 1) := by decide +kernel
theorem d_Mac_delegate_11 : decode b_Mac_delegate 11 = .ok (.invokevirtual 144, 3) := by decide +kernel
theorem d_Mac_delegate_14 : decode b_Mac_delegate 14 = .ok (.istore 4, 2) := by decide +kernel
theorem d_Mac_delegate_16 : decode b_Mac_delegate 16 = .ok (.aload_n 0, 1) := by decide +kernel
theorem d_Mac_delegate_17 : decode b_Mac_delegate 17 = .ok (.iload_n 3, 1) := by decide +kernel
theorem d_Mac_delegate_18 : decode b_Mac_delegate 18 = .ok (.invokevirtual 230, 3) := by decide +kernel
theorem d_Mac_delegate_21 : decode b_Mac_delegate 21 = .ok (.ifCond .eq 31, 3) := by decide +kernel
theorem d_Mac_delegate_24 : decode b_Mac_delegate 24 = .ok (.aload_n 0, 1) := by decide +kernel
theorem d_Mac_delegate_25 : decode b_Mac_delegate 25 = .ok (.aload_n 1, 1) := by decide +kernel
theorem d_Mac_delegate_26 : decode b_Mac_delegate 26 = .ok (.getfield 170, 3) := by decide +kernel
theorem d_Mac_delegate_29 : decode b_Mac_delegate 29 = .ok (.iload_n 3, 1) := by decide +kernel
theorem d_Mac_delegate_30 : decode b_Mac_delegate 30 = .ok (.aload_n 1, 1) := by decide +kernel
theorem d_Mac_delegate_31 : decode b_Mac_delegate 31 = .ok (.getfield 208, 3) := by decide +kernel
theorem d_Mac_delegate_34 : decode b_Mac_delegate 34 = .ok (.aload_n 1, 1) := by decide +kernel
theorem d_Mac_delegate_35 : decode b_Mac_delegate 35 = .ok (.getfield 211, 3) := by decide +kernel
theorem d_Mac_delegate_38 : decode b_Mac_delegate 38 = .ok (.iload 4, 2) := by decide +kernel
theorem d_Mac_delegate_40 : decode b_Mac_delegate 40 = .ok (.aload_n 0, 1) := by decide +kernel
theorem d_Mac_delegate_41 : decode b_Mac_delegate 41 = .ok (.aload_n 1, 1) := by decide +kernel
theorem d_Mac_delegate_42 : decode b_Mac_delegate 42 = .ok (.iload_n 2, 1) := by decide +kernel
theorem d_Mac_delegate_43 : decode b_Mac_delegate 43 = .ok (.invokevirtual 239, 3) := by decide +kernel
theorem d_Mac_delegate_46 : decode b_Mac_delegate 46 = .ok (.invokevirtual 42, 3) := by decide +kernel
theorem d_Mac_delegate_49 : decode b_Mac_delegate 49 = .ok (.goto 8, 3) := by decide +kernel
theorem d_Mac_delegate_52 : decode b_Mac_delegate 52 = .ok (.aload_n 0, 1) := by decide +kernel
theorem d_Mac_delegate_53 : decode b_Mac_delegate 53 = .ok (.aload_n 1, 1) := by decide +kernel
theorem d_Mac_delegate_54 : decode b_Mac_delegate 54 = .ok (.invokevirtual 236, 3) := by decide +kernel
theorem d_Mac_delegate_57 : decode b_Mac_delegate 57 = .ok (.return_, 1) := by decide +kernel
theorem d_Mac_canEnter_0 : decode b_Mac_canEnter 0 = .ok (.iload_n 1, 1) := by decide +kernel
theorem d_Mac_canEnter_1 : decode b_Mac_canEnter 1 = .ok (.invokestatic 242, 3) := by decide +kernel
theorem d_Mac_canEnter_4 : decode b_Mac_canEnter 4 = .ok (.ifCond .eq 16, 3) := by decide +kernel
theorem d_Mac_canEnter_7 : decode b_Mac_canEnter 7 = .ok (.aload_n 0, 1) := by decide +kernel
theorem d_Mac_canEnter_8 : decode b_Mac_canEnter 8 = .ok (.getfield 39, 3) := by decide +kernel
theorem d_Mac_canEnter_11 : decode b_Mac_canEnter 11 = .ok (.bipush 8, 2) := by decide +kernel
theorem d_Mac_canEnter_13 : decode b_Mac_canEnter 13 = .ok (.if_icmp .ge 7, 3) := by decide +kernel
theorem d_Mac_canEnter_16 : decode b_Mac_canEnter 16 = .ok (.iconst 1, 1) := by decide +kernel
theorem d_Mac_canEnter_17 : decode b_Mac_canEnter 17 = .ok (.goto 4, 3) := by decide +kernel
theorem d_Mac_canEnter_20 : decode b_Mac_canEnter 20 = .ok (.iconst 0, 1) := by decide +kernel
theorem d_Mac_canEnter_21 : decode b_Mac_canEnter 21 = .ok (.ireturn, 1) := by decide +kernel
theorem d_Mac_pushNoFrame_0 : decode b_Mac_pushNoFrame 0 = .ok (.aload_n 1, 1) := by decide +kernel
theorem d_Mac_pushNoFrame_1 : decode b_Mac_pushNoFrame 1 = .ok (.iconst 0, 1) := by decide +kernel
theorem d_Mac_pushNoFrame_2 : decode b_Mac_pushNoFrame 2 = .ok (.invokevirtual 110, 3) := by decide +kernel
theorem d_Mac_pushNoFrame_5 : decode b_Mac_pushNoFrame 5 = .ok (.aload_n 1, 1) := by decide +kernel
theorem d_Mac_pushNoFrame_6 : decode b_Mac_pushNoFrame 6 = .ok (.iconst 0, 1) := by decide +kernel
theorem d_Mac_pushNoFrame_7 : decode b_Mac_pushNoFrame 7 = .ok (.invokevirtual 110, 3) := by decide +kernel
theorem d_Mac_pushNoFrame_10 : decode b_Mac_pushNoFrame 10 = .ok (.return_, 1) := by decide +kernel
theorem d_Mac_takeGas_0 : decode b_Mac_takeGas 0 = .ok (.iload_n 2, 1) := by decide +kernel
theorem d_Mac_takeGas_1 : decode b_Mac_takeGas 1 = .ok (.iconst 0, 1) := by decide +kernel
theorem d_Mac_takeGas_2 : decode b_Mac_takeGas 2 = .ok (.invokestatic 199, 3) := by decide +kernel
theorem d_Mac_takeGas_5 : decode b_Mac_takeGas 5 = .ok (.aload_n 1, 1) := by decide +kernel
theorem d_Mac_takeGas_6 : decode b_Mac_takeGas 6 = .ok (.getfield 104, 3) := by decide +kernel
theorem d_Mac_takeGas_9 : decode b_Mac_takeGas 9 = .ok (.invokestatic 194, 3) := by decide +kernel
theorem d_Mac_takeGas_12 : decode b_Mac_takeGas 12 = .ok (.istore_n 3, 1) := by decide +kernel
theorem d_Mac_takeGas_13 : decode b_Mac_takeGas 13 = .ok (.aload_n 1, 1) := by decide +kernel
theorem d_Mac_takeGas_14 : decode b_Mac_takeGas 14 = .ok (.dup, 1) := by decide +kernel
theorem d_Mac_takeGas_15 : decode b_Mac_takeGas 15 = .ok (.getfield 104, 3) := by decide +kernel
theorem d_Mac_takeGas_18 : decode b_Mac_takeGas 18 = .ok (.iload_n 3, 1) := by decide +kernel
theorem d_Mac_takeGas_19 : decode b_Mac_takeGas 19 = .ok (.isub, 1) := by decide +kernel
theorem d_Mac_takeGas_20 : decode b_Mac_takeGas 20 = .ok (.putfield 104, 3) := by decide +kernel
theorem d_Mac_takeGas_23 : decode b_Mac_takeGas 23 = .ok (.iload_n 3, 1) := by decide +kernel
theorem d_Mac_takeGas_24 : decode b_Mac_takeGas 24 = .ok (.ireturn, 1) := by decide +kernel
theorem d_Mac_create_0 : decode b_Mac_create 0 = .ok (.aload_n 1, 1) := by decide +kernel
theorem d_Mac_create_1 : decode b_Mac_create 1 = .ok (.invokevirtual 144, 3) := by decide +kernel
theorem d_Mac_create_4 : decode b_Mac_create 4 = .ok (.istore_n 2, 1) := by decide +kernel
theorem d_Mac_create_5 : decode b_Mac_create 5 = .ok (.aload_n 1, 1) := by decide +kernel
theorem d_Mac_create_6 : decode b_Mac_create 6 = .ok (.invokevirtual 144, 3) := by decide +kernel
theorem d_Mac_create_9 : decode b_Mac_create 9 = .ok (.istore_n 3, 1) := by decide +kernel
theorem d_Mac_create_10 : decode b_Mac_create 10 = .ok (.aload_n 1, 1) := by decide +kernel
theorem d_Mac_create_11 : decode b_Mac_create 11 = .ok (.invokevirtual 144, 3) := by decide +kernel
theorem d_Mac_create_14 : decode b_Mac_create 14 = .ok (.istore 4, 2) := by decide +kernel
theorem d_Mac_create_16 : decode b_Mac_create 16 = .ok (.aload_n 0, 1) := by decide +kernel
theorem d_Mac_create_17 : decode b_Mac_create 17 = .ok (.getfield 12, 3) := by decide +kernel
theorem d_Mac_create_20 : decode b_Mac_create 20 = .ok (.getfield 221, 3) := by decide +kernel
theorem d_Mac_create_23 : decode b_Mac_create 23 = .ok (.aload_n 1, 1) := by decide +kernel
theorem d_Mac_create_24 : decode b_Mac_create 24 = .ok (.getfield 113, 3) := by decide +kernel
theorem d_Mac_create_27 : decode b_Mac_create 27 = .ok (.iaload, 1) := by decide +kernel
theorem d_Mac_create_28 : decode b_Mac_create 28 = .ok (.istore 5, 2) := by decide +kernel
theorem d_Mac_create_30 : decode b_Mac_create 30 = .ok (.iload_n 2, 1) := by decide +kernel
theorem d_Mac_create_31 : decode b_Mac_create 31 = .ok (.ifCond .lt 29, 3) := by decide +kernel
theorem d_Mac_create_34 : decode b_Mac_create 34 = .ok (.iload 4, 2) := by decide +kernel
theorem d_Mac_create_36 : decode b_Mac_create 36 = .ok (.iconst 1, 1) := by decide +kernel
theorem d_Mac_create_37 : decode b_Mac_create 37 = .ok (.if_icmp .lt 23, 3) := by decide +kernel
theorem d_Mac_create_40 : decode b_Mac_create 40 = .ok (.iload_n 3, 1) := by decide +kernel
theorem d_Mac_create_41 : decode b_Mac_create 41 = .ok (.ifCond .lt 19, 3) := by decide +kernel
theorem d_Mac_create_44 : decode b_Mac_create 44 = .ok (.iload 4, 2) := by decide +kernel
theorem d_Mac_create_46 : decode b_Mac_create 46 = .ok (.iload 5, 2) := by decide +kernel
theorem d_Mac_create_48 : decode b_Mac_create 48 = .ok (.if_icmp .gt 12, 3) := by decide +kernel
theorem d_Mac_create_51 : decode b_Mac_create 51 = .ok (.iload_n 3, 1) := by decide +kernel
theorem d_Mac_create_52 : decode b_Mac_create 52 = .ok (.iload 5, 2) := by decide +kernel
theorem d_Mac_create_54 : decode b_Mac_create 54 = .ok (.iload 4, 2) := by decide +kernel
theorem d_Mac_create_56 : decode b_Mac_create 56 = .ok (.isub, 1) := by decide +kernel
theorem d_Mac_create_57 : decode b_Mac_create 57 = .ok (.if_icmp .le 8, 3) := by decide +kernel
theorem d_Mac_create_60 : decode b_Mac_create 60 = .ok (.aload_n 1, 1) := by decide +kernel
theorem d_Mac_create_61 : decode b_Mac_create 61 = .ok (.invokevirtual 137, 3) := by decide +kernel
theorem d_Mac_create_64 : decode b_Mac_create 64 = .ok (.return_, 1) := by decide +kernel
theorem d_Mac_create_65 : decode b_Mac_create 65 = .ok (.aload_n 0, 1) := by decide +kernel
theorem d_Mac_create_66 : decode b_Mac_create 66 = .ok (.getfield 12, 3) := by decide +kernel
theorem d_Mac_create_69 : decode b_Mac_create 69 = .ok (.invokevirtual 245, 3) := by decide +kernel
theorem d_Mac_create_72 : decode b_Mac_create 72 = .ok (.istore 6, 2) := by decide +kernel
theorem d_Mac_create_74 : decode b_Mac_create 74 = .ok (.iload 6, 2) := by decide +kernel
theorem d_Mac_create_76 : decode b_Mac_create 76 = .ok (.ifCond .lt 19, 3) := by decide +kernel
theorem d_Mac_create_79 : decode b_Mac_create 79 = .ok (.aload_n 0, 1) := by decide +kernel
theorem d_Mac_create_80 : decode b_Mac_create 80 = .ok (.getfield 12, 3) := by decide +kernel
theorem d_Mac_create_83 : decode b_Mac_create 83 = .ok (.getfield 233, 3) := by decide +kernel
theorem d_Mac_create_86 : decode b_Mac_create 86 = .ok (.aload_n 1, 1) := by decide +kernel
theorem d_Mac_create_87 : decode b_Mac_create 87 = .ok (.getfield 170, 3) := by decide +kernel
theorem d_Mac_create_90 : decode b_Mac_create 90 = .ok (.iaload, 1) := by decide +kernel
theorem d_Mac_create_91 : decode b_Mac_create 91 = .ok (.iload_n 2, 1) := by decide +kernel
theorem d_Mac_create_92 : decode b_Mac_create 92 = .ok (.if_icmp .ge 9, 3) := by decide +kernel
theorem d_Mac_create_95 : decode b_Mac_create 95 = .ok (.aload_n 1, 1) := by decide +kernel
theorem d_Mac_create_96 : decode b_Mac_create 96 = .ok (.iconst (-1), 1) := by decide +kernel
theorem d_Mac_create_97 : decode b_Mac_create 97 = .ok (.invokevirtual 110, 3) := by decide +kernel
theorem d_Mac_create_100 : decode b_Mac_create 100 = .ok (.return_, 1) := by decide +kernel
theorem d_Mac_create_101 : decode b_Mac_create 101 = .ok (.aload_n 0, 1) := by decide +kernel
theorem d_Mac_create_102 : decode b_Mac_create 102 = .ok (.getfield 12, 3) := by decide +kernel
theorem d_Mac_create_105 : decode b_Mac_create 105 = .ok (.getfield 248, 3) := by decide +kernel
theorem d_Mac_create_108 : decode b_Mac_create 108 = .ok (.aload_n 1, 1) := by decide +kernel
theorem d_Mac_create_109 : decode b_Mac_create 109 = .ok (.getfield 170, 3) := by decide +kernel
theorem d_Mac_create_112 : decode b_Mac_create 112 = .ok (.dup2, 1) := by decide +kernel
theorem d_Mac_create_113 : decode b_Mac_create 113 = .ok (.iaload, 1) := by decide +kernel
theorem d_Mac_create_114 : decode b_Mac_create 114 = .ok (.iconst 1, 1) := by decide +kernel
theorem d_Mac_create_115 : decode b_Mac_create 115 = .ok (.iadd, 1) := by decide +kernel
theorem d_Mac_create_116 : decode b_Mac_create 116 = .ok (.iastore, 1) := by decide +kernel
theorem d_Mac_create_117 : decode b_Mac_create 117 = .ok (.aload_n 0, 1) := by decide +kernel
theorem d_Mac_create_118 : decode b_Mac_create 118 = .ok (.getfield 12, 3) := by decide +kernel
theorem d_Mac_create_121 : decode b_Mac_create 121 = .ok (.getfield 248, 3) := by decide +kernel
theorem d_Mac_create_124 : decode b_Mac_create 124 = .ok (.iload 6, 2) := by decide +kernel
theorem d_Mac_create_126 : decode b_Mac_create 126 = .ok (.iconst 1, 1) := by decide +kernel
theorem d_Mac_create_127 : decode b_Mac_create 127 = .ok (.iastore, 1) := by decide +kernel
theorem d_Mac_create_128 : decode b_Mac_create 128 = .ok (.iconst 0, 1) := by decide +kernel
theorem d_Mac_create_129 : decode b_Mac_create 129 = .ok (.istore 7, 2) := by decide +kernel
theorem d_Mac_create_131 : decode b_Mac_create 131 = .ok (.iload 7, 2) := by decide +kernel
theorem d_Mac_create_133 : decode b_Mac_create 133 = .ok (.iload 4, 2) := by decide +kernel
theorem d_Mac_create_135 : decode b_Mac_create 135 = .ok (.if_icmp .ge 34, 3) := by decide +kernel
theorem d_Mac_create_138 : decode b_Mac_create 138 = .ok (.aload_n 0, 1) := by decide +kernel
theorem d_Mac_create_139 : decode b_Mac_create 139 = .ok (.getfield 12, 3) := by decide +kernel
theorem d_Mac_create_142 : decode b_Mac_create 142 = .ok (.iload 6, 2) := by decide +kernel
theorem d_Mac_create_144 : decode b_Mac_create 144 = .ok (.aload_n 0, 1) := by decide +kernel
theorem d_Mac_create_145 : decode b_Mac_create 145 = .ok (.getfield 12, 3) := by decide +kernel
theorem d_Mac_create_148 : decode b_Mac_create 148 = .ok (.aload_n 1, 1) := by decide +kernel
theorem d_Mac_create_149 : decode b_Mac_create 149 = .ok (.getfield 113, 3) := by decide +kernel
theorem d_Mac_create_152 : decode b_Mac_create 152 = .ok (.iload_n 3, 1) := by decide +kernel
theorem d_Mac_create_153 : decode b_Mac_create 153 = .ok (.iload 7, 2) := by decide +kernel
theorem d_Mac_create_155 : decode b_Mac_create 155 = .ok (.iadd, 1) := by decide +kernel
theorem d_Mac_create_156 : decode b_Mac_create 156 = .ok (.invokevirtual 119, 3) := by decide +kernel
theorem d_Mac_create_159 : decode b_Mac_create 159 = .ok (.invokevirtual 251, 3) := by decide +kernel
theorem d_Mac_create_162 : decode b_Mac_create 162 = .ok (.pop, 1) := by decide +kernel
theorem d_Mac_create_163 : decode b_Mac_create 163 = .ok (.iinc 7 1, 3) := by decide +kernel
theorem d_Mac_create_166 : decode b_Mac_create 166 = .ok (.goto (-35), 3) := by decide +kernel
theorem d_Mac_create_169 : decode b_Mac_create 169 = .ok (.aload_n 0, 1) := by decide +kernel
theorem d_Mac_create_170 : decode b_Mac_create 170 = .ok (.getfield 12, 3) := by decide +kernel
theorem d_Mac_create_173 : decode b_Mac_create 173 = .ok (.aload_n 1, 1) := by decide +kernel
theorem d_Mac_create_174 : decode b_Mac_create 174 = .ok (.getfield 170, 3) := by decide +kernel
theorem d_Mac_create_177 : decode b_Mac_create 177 = .ok (.iload 6, 2) := by decide +kernel
theorem d_Mac_create_179 : decode b_Mac_create 179 = .ok (.iload_n 2, 1) := by decide +kernel
theorem d_Mac_create_180 : decode b_Mac_create 180 = .ok (.invokevirtual 46, 3) := by decide +kernel
theorem d_Mac_create_183 : decode b_Mac_create 183 = .ok (.aload_n 1, 1) := by decide +kernel
theorem d_Mac_create_184 : decode b_Mac_create 184 = .ok (.iload 6, 2) := by decide +kernel
theorem d_Mac_create_186 : decode b_Mac_create 186 = .ok (.invokevirtual 110, 3) := by decide +kernel
theorem d_Mac_create_189 : decode b_Mac_create 189 = .ok (.return_, 1) := by decide +kernel
theorem d_Mac_endSelf_0 : decode b_Mac_endSelf 0 = .ok (.aload_n 1, 1) := by decide +kernel
theorem d_Mac_endSelf_1 : decode b_Mac_endSelf 1 = .ok (.invokevirtual 144, 3) := by decide +kernel
theorem d_Mac_endSelf_4 : decode b_Mac_endSelf 4 = .ok (.istore_n 2, 1) := by decide +kernel
theorem d_Mac_endSelf_5 : decode b_Mac_endSelf 5 = .ok (.iload_n 2, 1) := by decide +kernel
theorem d_Mac_endSelf_6 : decode b_Mac_endSelf 6 = .ok (.invokestatic 242, 3) := by decide +kernel
theorem d_Mac_endSelf_9 : decode b_Mac_endSelf 9 = .ok (.ifCond .ne 8, 3) := by decide +kernel
theorem d_Mac_endSelf_12 : decode b_Mac_endSelf 12 = .ok (.aload_n 1, 1) := by decide +kernel
theorem d_Mac_endSelf_13 : decode b_Mac_endSelf 13 = .ok (.invokevirtual 137, 3) := by decide +kernel
theorem d_Mac_endSelf_16 : decode b_Mac_endSelf 16 = .ok (.return_, 1) := by decide +kernel
theorem d_Mac_endSelf_17 : decode b_Mac_endSelf 17 = .ok (.aload_n 0, 1) := by decide +kernel
theorem d_Mac_endSelf_18 : decode b_Mac_endSelf 18 = .ok (.getfield 12, 3) := by decide +kernel
theorem d_Mac_endSelf_21 : decode b_Mac_endSelf 21 = .ok (.aload_n 1, 1) := by decide +kernel
theorem d_Mac_endSelf_22 : decode b_Mac_endSelf 22 = .ok (.getfield 170, 3) := by decide +kernel
theorem d_Mac_endSelf_25 : decode b_Mac_endSelf 25 = .ok (.iload_n 2, 1) := by decide +kernel
theorem d_Mac_endSelf_26 : decode b_Mac_endSelf 26 = .ok (.aload_n 0, 1) := by decide +kernel
theorem d_Mac_endSelf_27 : decode b_Mac_endSelf 27 = .ok (.getfield 12, 3) := by decide +kernel
theorem d_Mac_endSelf_30 : decode b_Mac_endSelf 30 = .ok (.getfield 233, 3) := by decide +kernel
theorem d_Mac_endSelf_33 : decode b_Mac_endSelf 33 = .ok (.aload_n 1, 1) := by decide +kernel
theorem d_Mac_endSelf_34 : decode b_Mac_endSelf 34 = .ok (.getfield 170, 3) := by decide +kernel
theorem d_Mac_endSelf_37 : decode b_Mac_endSelf 37 = .ok (.iaload, 1) := by decide +kernel
theorem d_Mac_endSelf_38 : decode b_Mac_endSelf 38 = .ok (.invokevirtual 46, 3) := by decide +kernel
theorem d_Mac_endSelf_41 : decode b_Mac_endSelf 41 = .ok (.aload_n 0, 1) := by decide +kernel
theorem d_Mac_endSelf_42 : decode b_Mac_endSelf 42 = .ok (.dup, 1) := by decide +kernel
theorem d_Mac_endSelf_43 : decode b_Mac_endSelf 43 = .ok (.getfield 36, 3) := by decide +kernel
theorem d_Mac_endSelf_46 : decode b_Mac_endSelf 46 = .ok (.iconst 1, 1) := by decide +kernel
theorem d_Mac_endSelf_47 : decode b_Mac_endSelf 47 = .ok (.aload_n 1, 1) := by decide +kernel
theorem d_Mac_endSelf_48 : decode b_Mac_endSelf 48 = .ok (.getfield 170, 3) := by decide +kernel
theorem d_Mac_endSelf_51 : decode b_Mac_endSelf 51 = .ok (.ishl, 1) := by decide +kernel
theorem d_Mac_endSelf_52 : decode b_Mac_endSelf 52 = .ok (.ior, 1) := by decide +kernel
theorem d_Mac_endSelf_53 : decode b_Mac_endSelf 53 = .ok (.putfield 36, 3) := by decide +kernel
theorem d_Mac_endSelf_56 : decode b_Mac_endSelf 56 = .ok (.aload_n 1, 1) := by decide +kernel
theorem d_Mac_endSelf_57 : decode b_Mac_endSelf 57 = .ok (.iconst 1, 1) := by decide +kernel
theorem d_Mac_endSelf_58 : decode b_Mac_endSelf 58 = .ok (.iconst 0, 1) := by decide +kernel
theorem d_Mac_endSelf_59 : decode b_Mac_endSelf 59 = .ok (.invokevirtual 140, 3) := by decide +kernel
theorem d_Mac_endSelf_62 : decode b_Mac_endSelf 62 = .ok (.return_, 1) := by decide +kernel
theorem d_Rec_init_0 : decode b_Rec_init 0 = .ok (.aload_n 0, 1) := by decide +kernel
theorem d_Rec_init_1 : decode b_Rec_init 1 = .ok (.invokespecial 3, 3) := by decide +kernel
theorem d_Rec_init_4 : decode b_Rec_init 4 = .ok (.aload_n 0, 1) := by decide +kernel
theorem d_Rec_init_5 : decode b_Rec_init 5 = .ok (.bipush 16, 2) := by decide +kernel
theorem d_Rec_init_7 : decode b_Rec_init 7 = .ok (.newarray .int, 2) := by decide +kernel
theorem d_Rec_init_9 : decode b_Rec_init 9 = .ok (.putfield 9, 3) := by decide +kernel
theorem d_Rec_init_12 : decode b_Rec_init 12 = .ok (.aload_n 0, 1) := by decide +kernel
theorem d_Rec_init_13 : decode b_Rec_init 13 = .ok (.bipush 16, 2) := by decide +kernel
theorem d_Rec_init_15 : decode b_Rec_init 15 = .ok (.newarray .int, 2) := by decide +kernel
theorem d_Rec_init_17 : decode b_Rec_init 17 = .ok (.putfield 15, 3) := by decide +kernel
theorem d_Rec_init_20 : decode b_Rec_init 20 = .ok (.aload_n 0, 1) := by decide +kernel
theorem d_Rec_init_21 : decode b_Rec_init 21 = .ok (.bipush 16, 2) := by decide +kernel
theorem d_Rec_init_23 : decode b_Rec_init 23 = .ok (.newarray .int, 2) := by decide +kernel
theorem d_Rec_init_25 : decode b_Rec_init 25 = .ok (.putfield 18, 3) := by decide +kernel
theorem d_Rec_init_28 : decode b_Rec_init 28 = .ok (.aload_n 0, 1) := by decide +kernel
theorem d_Rec_init_29 : decode b_Rec_init 29 = .ok (.bipush 16, 2) := by decide +kernel
theorem d_Rec_init_31 : decode b_Rec_init 31 = .ok (.newarray .int, 2) := by decide +kernel
theorem d_Rec_init_33 : decode b_Rec_init 33 = .ok (.putfield 21, 3) := by decide +kernel
theorem d_Rec_init_36 : decode b_Rec_init 36 = .ok (.return_, 1) := by decide +kernel
theorem d_Rec_add_0 : decode b_Rec_add 0 = .ok (.aload_n 0, 1) := by decide +kernel
theorem d_Rec_add_1 : decode b_Rec_add 1 = .ok (.getfield 24, 3) := by decide +kernel
theorem d_Rec_add_4 : decode b_Rec_add 4 = .ok (.bipush 16, 2) := by decide +kernel
theorem d_Rec_add_6 : decode b_Rec_add 6 = .ok (.if_icmp .ge 44, 3) := by decide +kernel
theorem d_Rec_add_9 : decode b_Rec_add 9 = .ok (.aload_n 0, 1) := by decide +kernel
theorem d_Rec_add_10 : decode b_Rec_add 10 = .ok (.getfield 9, 3) := by decide +kernel
theorem d_Rec_add_13 : decode b_Rec_add 13 = .ok (.aload_n 0, 1) := by decide +kernel
theorem d_Rec_add_14 : decode b_Rec_add 14 = .ok (.getfield 24, 3) := by decide +kernel
theorem d_Rec_add_17 : decode b_Rec_add 17 = .ok (.iload_n 1, 1) := by decide +kernel
theorem d_Rec_add_18 : decode b_Rec_add 18 = .ok (.iastore, 1) := by decide +kernel
theorem d_Rec_add_19 : decode b_Rec_add 19 = .ok (.aload_n 0, 1) := by decide +kernel
theorem d_Rec_add_20 : decode b_Rec_add 20 = .ok (.getfield 15, 3) := by decide +kernel
theorem d_Rec_add_23 : decode b_Rec_add 23 = .ok (.aload_n 0, 1) := by decide +kernel
theorem d_Rec_add_24 : decode b_Rec_add 24 = .ok (.getfield 24, 3) := by decide +kernel
theorem d_Rec_add_27 : decode b_Rec_add 27 = .ok (.iload_n 2, 1) := by decide +kernel
theorem d_Rec_add_28 : decode b_Rec_add 28 = .ok (.iastore, 1) := by decide +kernel
theorem d_Rec_add_29 : decode b_Rec_add 29 = .ok (.aload_n 0, 1) := by decide +kernel
theorem d_Rec_add_30 : decode b_Rec_add 30 = .ok (.getfield 18, 3) := by decide +kernel
theorem d_Rec_add_33 : decode b_Rec_add 33 = .ok (.aload_n 0, 1) := by decide +kernel
theorem d_Rec_add_34 : decode b_Rec_add 34 = .ok (.getfield 24, 3) := by decide +kernel
theorem d_Rec_add_37 : decode b_Rec_add 37 = .ok (.iload_n 3, 1) := by decide +kernel
theorem d_Rec_add_38 : decode b_Rec_add 38 = .ok (.iastore, 1) := by decide +kernel
theorem d_Rec_add_39 : decode b_Rec_add 39 = .ok (.aload_n 0, 1) := by decide +kernel
theorem d_Rec_add_40 : decode b_Rec_add 40 = .ok (.getfield 21, 3) := by decide +kernel
theorem d_Rec_add_43 : decode b_Rec_add 43 = .ok (.aload_n 0, 1) := by decide +kernel
theorem d_Rec_add_44 : decode b_Rec_add 44 = .ok (.getfield 24, 3) := by decide +kernel
theorem d_Rec_add_47 : decode b_Rec_add 47 = .ok (.iload 4, 2) := by decide +kernel
theorem d_Rec_add_49 : decode b_Rec_add 49 = .ok (.iastore, 1) := by decide +kernel
theorem d_Rec_add_50 : decode b_Rec_add 50 = .ok (.aload_n 0, 1) := by decide +kernel
theorem d_Rec_add_51 : decode b_Rec_add 51 = .ok (.dup, 1) := by decide +kernel
theorem d_Rec_add_52 : decode b_Rec_add 52 = .ok (.getfield 24, 3) := by decide +kernel
theorem d_Rec_add_55 : decode b_Rec_add 55 = .ok (.iconst 1, 1) := by decide +kernel
theorem d_Rec_add_56 : decode b_Rec_add 56 = .ok (.iadd, 1) := by decide +kernel
theorem d_Rec_add_57 : decode b_Rec_add 57 = .ok (.putfield 24, 3) := by decide +kernel
theorem d_Rec_add_60 : decode b_Rec_add 60 = .ok (.return_, 1) := by decide +kernel
theorem d_Rec_partOf_0 : decode b_Rec_partOf 0 = .ok (.iload_n 1, 1) := by decide +kernel
theorem d_Rec_partOf_1 : decode b_Rec_partOf 1 = .ok (.ifCond .lt 17, 3) := by decide +kernel
theorem d_Rec_partOf_4 : decode b_Rec_partOf 4 = .ok (.iload_n 1, 1) := by decide +kernel
theorem d_Rec_partOf_5 : decode b_Rec_partOf 5 = .ok (.aload_n 0, 1) := by decide +kernel
theorem d_Rec_partOf_6 : decode b_Rec_partOf 6 = .ok (.getfield 24, 3) := by decide +kernel
theorem d_Rec_partOf_9 : decode b_Rec_partOf 9 = .ok (.if_icmp .ge 9, 3) := by decide +kernel
theorem d_Rec_partOf_12 : decode b_Rec_partOf 12 = .ok (.iload_n 1, 1) := by decide +kernel
theorem d_Rec_partOf_13 : decode b_Rec_partOf 13 = .ok (.bipush 16, 2) := by decide +kernel
theorem d_Rec_partOf_15 : decode b_Rec_partOf 15 = .ok (.if_icmp .lt 5, 3) := by decide +kernel
theorem d_Rec_partOf_18 : decode b_Rec_partOf 18 = .ok (.iconst (-1), 1) := by decide +kernel
theorem d_Rec_partOf_19 : decode b_Rec_partOf 19 = .ok (.ireturn, 1) := by decide +kernel
theorem d_Rec_partOf_20 : decode b_Rec_partOf 20 = .ok (.iload_n 2, 1) := by decide +kernel
theorem d_Rec_partOf_21 : decode b_Rec_partOf 21 = .ok (.tableswitch 59 0 3 #[31, 38, 45, 52], 31) := by decide +kernel
theorem d_Rec_partOf_52 : decode b_Rec_partOf 52 = .ok (.aload_n 0, 1) := by decide +kernel
theorem d_Rec_partOf_53 : decode b_Rec_partOf 53 = .ok (.getfield 9, 3) := by decide +kernel
theorem d_Rec_partOf_56 : decode b_Rec_partOf 56 = .ok (.iload_n 1, 1) := by decide +kernel
theorem d_Rec_partOf_57 : decode b_Rec_partOf 57 = .ok (.iaload, 1) := by decide +kernel
theorem d_Rec_partOf_58 : decode b_Rec_partOf 58 = .ok (.ireturn, 1) := by decide +kernel
theorem d_Rec_partOf_59 : decode b_Rec_partOf 59 = .ok (.aload_n 0, 1) := by decide +kernel
theorem d_Rec_partOf_60 : decode b_Rec_partOf 60 = .ok (.getfield 15, 3) := by decide +kernel
theorem d_Rec_partOf_63 : decode b_Rec_partOf 63 = .ok (.iload_n 1, 1) := by decide +kernel
theorem d_Rec_partOf_64 : decode b_Rec_partOf 64 = .ok (.iaload, 1) := by decide +kernel
theorem d_Rec_partOf_65 : decode b_Rec_partOf 65 = .ok (.ireturn, 1) := by decide +kernel
theorem d_Rec_partOf_66 : decode b_Rec_partOf 66 = .ok (.aload_n 0, 1) := by decide +kernel
theorem d_Rec_partOf_67 : decode b_Rec_partOf 67 = .ok (.getfield 18, 3) := by decide +kernel
theorem d_Rec_partOf_70 : decode b_Rec_partOf 70 = .ok (.iload_n 1, 1) := by decide +kernel
theorem d_Rec_partOf_71 : decode b_Rec_partOf 71 = .ok (.iaload, 1) := by decide +kernel
theorem d_Rec_partOf_72 : decode b_Rec_partOf 72 = .ok (.ireturn, 1) := by decide +kernel
theorem d_Rec_partOf_73 : decode b_Rec_partOf 73 = .ok (.aload_n 0, 1) := by decide +kernel
theorem d_Rec_partOf_74 : decode b_Rec_partOf 74 = .ok (.getfield 21, 3) := by decide +kernel
theorem d_Rec_partOf_77 : decode b_Rec_partOf 77 = .ok (.iload_n 1, 1) := by decide +kernel
theorem d_Rec_partOf_78 : decode b_Rec_partOf 78 = .ok (.iaload, 1) := by decide +kernel
theorem d_Rec_partOf_79 : decode b_Rec_partOf 79 = .ok (.ireturn, 1) := by decide +kernel
theorem d_Rec_partOf_80 : decode b_Rec_partOf 80 = .ok (.iconst (-1), 1) := by decide +kernel
theorem d_Rec_partOf_81 : decode b_Rec_partOf 81 = .ok (.ireturn, 1) := by decide +kernel
end
section
/-! The layout: cell k of a world is of kind cx_kd k (an object of class 0 .. 6, the frames (50), an array of n ints (100 + n), of n booleans (10000 + n)); 99: none. -/
def cx_kl : List Nat := [5, 3, 0, 116, 116, 116, 484, 228, 116, 2, 116, 116, 50, 1, 112, 0, 116, 116, 116, 484, 228, 116, 1, 112, 0, 116, 116, 116, 484, 228, 116, 1, 112, 0, 116, 116, 116, 484, 228, 116, 1, 112, 0, 116, 116, 116, 484, 228, 116, 1, 112, 0, 116, 116, 116, 484, 228, 116, 1, 112, 0, 116, 116, 116, 484, 228, 116, 1, 112, 0, 116, 116, 116, 484, 228, 116, 1, 112, 0, 116, 116, 116, 484, 228, 116, 0, 116, 116, 116, 484, 228, 116, 4, 116, 116, 116, 116]
def cx_kd (k : Nat) : Nat := cx_kl.getD k 99
theorem cx_lt {k c : Nat} (h : cx_kd k = c) (hc : c ≠ 99) : k < 97 := by
  by_cases hk : k < 97
  · exact hk
  · exfalso
    apply hc
    rw [← h]
    unfold cx_kd
    rw [List.getD_eq_getElem?_getD, List.getElem?_eq_none (by show 97 ≤ k; omega)]
    rfl
def mx_kl : List Nat := [6, 676, 676, 164, 612, 612, 108, 108, 108, 108, 108, 108, 108, 108, 196, 4708, 108, 108, 132, 10016, 116, 116]
def mx_kd (k : Nat) : Nat := mx_kl.getD k 99
theorem mx_lt {k c : Nat} (h : mx_kd k = c) (hc : c ≠ 99) : k < 22 := by
  by_cases hk : k < 22
  · exact hk
  · exfalso
    apply hc
    rw [← h]
    unfold mx_kd
    rw [List.getD_eq_getElem?_getD, List.getElem?_eq_none (by show 22 ≤ k; omega)]
    rfl
def cx_sh (cI cR : ClassId) (b k : Nat) (f : Nat → Int32) : va_E := if 100 ≤ cx_kd k then .inl (cI, cx_kd k - 100, .inl f) else match cx_kd k with
  | 0 => .inr (0, [.ref (b + (k + 1)), .ref (b + (k + 2)), .ref (b + (k + 3)), .ref (b + (k + 4)), .ref (b + (k + 5)), .ref (b + (k + 6))])
  | 1 => .inr (1, [.int (f 0), .int (f 1), .int (f 2), .int (f 3), .int (f 4), .int (f 5), .int (f 6), .ref (b + (k + 1)), .int (f 8), .int (f 9), .int (f 10), .int (f 11), .ref (b + (k + 2)), .int (f 13), .int (f 14), .int (f 15), .int (f 16)])
  | 2 => .inr (2, [.ref (b + (k + 1)), .ref (b + (k + 2)), .int (f 2), .int (f 3)])
  | 3 => .inr (3, [.ref (b + (k + 1)), .ref (b + (k + 8)), .ref (b + (k + 11)), .int (f 3), .int (f 4), .int (f 5)])
  | 4 => .inr (4, [.ref (b + (k + 1)), .ref (b + (k + 2)), .ref (b + (k + 3)), .ref (b + (k + 4)), .int (f 4)])
  | 5 => .inr (5, [.ref (b + (k + 1)), .ref (b + (k + 85)), .ref (b + (k + 92)), .int (f 3), .int (f 4), .int (f 5), .int (f 6), .int (f 7), .int (f 8), .int (f 9), .int (f 10), .int (f 11), .int (f 12), .int (f 13)])
  | 50 => .inl (cR, 8, .inr (.inr (.inr (.inr (fun j => some (b + (k + (1 + 9 * j))))))))
  | _ => .inr (99, [])
def mx_sh (cI cZ : ClassId) (b k : Nat) (f : Nat → Int32) : va_E := if 10000 ≤ mx_kd k then .inl (cZ, mx_kd k - 10000, .inl f) else if 100 ≤ mx_kd k then .inl (cI, mx_kd k - 100, .inl f) else match mx_kd k with
  | 6 => .inr (6, [.ref (b + (k + 1)), .ref (b + (k + 2)), .int (f 2), .int (f 3), .int (f 4), .int (f 5), .int (f 6), .int (f 7), .int (f 8), .int (f 9), .int (f 10), .int (f 11), .ref (b + (k + 3)), .int (f 13), .ref (b + (k + 4)), .ref (b + (k + 5)), .int (f 16), .int (f 17), .int (f 18), .int (f 19), .ref (b + (k + 6)), .ref (b + (k + 7)), .ref (b + (k + 8)), .ref (b + (k + 9)), .ref (b + (k + 10)), .ref (b + (k + 11)), .ref (b + (k + 12)), .ref (b + (k + 13)), .ref (b + (k + 14)), .ref (b + (k + 15)), .ref (b + (k + 16)), .ref (b + (k + 17)), .int (f 32), .int (f 33), .int (f 34), .ref (b + (k + 18)), .ref (b + (k + 19)), .ref (b + (k + 20)), .ref (b + (k + 21))])
  | _ => .inr (99, [])
theorem sh_Acc (cI cR : ClassId) (b : Nat) {k : Nat} (h : cx_kd k = 0) (f : Nat → Int32) : cx_sh cI cR b k f = .inr (0, [.ref (b + (k + 1)), .ref (b + (k + 2)), .ref (b + (k + 3)), .ref (b + (k + 4)), .ref (b + (k + 5)), .ref (b + (k + 6))]) := by
  unfold cx_sh
  rw [h]
  rfl
theorem to_Acc_balances {k : Nat} (h : cx_kd k = 0) : cx_kd (k + 1) = 116 := (by decide +kernel : ∀ k, k < 97 → cx_kd k = 0 → cx_kd (k + 1) = 116) k (cx_lt h (by decide)) h
theorem to_Acc_nonces {k : Nat} (h : cx_kd k = 0) : cx_kd (k + 2) = 116 := (by decide +kernel : ∀ k, k < 97 → cx_kd k = 0 → cx_kd (k + 2) = 116) k (cx_lt h (by decide)) h
theorem to_Acc_sizes {k : Nat} (h : cx_kd k = 0) : cx_kd (k + 3) = 116 := (by decide +kernel : ∀ k, k < 97 → cx_kd k = 0 → cx_kd (k + 3) = 116) k (cx_lt h (by decide)) h
theorem to_Acc_words {k : Nat} (h : cx_kd k = 0) : cx_kd (k + 4) = 484 := (by decide +kernel : ∀ k, k < 97 → cx_kd k = 0 → cx_kd (k + 4) = 484) k (cx_lt h (by decide)) h
theorem to_Acc_slots {k : Nat} (h : cx_kd k = 0) : cx_kd (k + 5) = 228 := (by decide +kernel : ∀ k, k < 97 → cx_kd k = 0 → cx_kd (k + 5) = 228) k (cx_lt h (by decide)) h
theorem to_Acc_values {k : Nat} (h : cx_kd k = 0) : cx_kd (k + 6) = 116 := (by decide +kernel : ∀ k, k < 97 → cx_kd k = 0 → cx_kd (k + 6) = 116) k (cx_lt h (by decide)) h
theorem sh_Frm (cI cR : ClassId) (b : Nat) {k : Nat} (h : cx_kd k = 1) (f : Nat → Int32) : cx_sh cI cR b k f = .inr (1, [.int (f 0), .int (f 1), .int (f 2), .int (f 3), .int (f 4), .int (f 5), .int (f 6), .ref (b + (k + 1)), .int (f 8), .int (f 9), .int (f 10), .int (f 11), .ref (b + (k + 2)), .int (f 13), .int (f 14), .int (f 15), .int (f 16)]) := by
  unfold cx_sh
  rw [h]
  rfl
theorem to_Frm_stack {k : Nat} (h : cx_kd k = 1) : cx_kd (k + 1) = 112 := (by decide +kernel : ∀ k, k < 97 → cx_kd k = 1 → cx_kd (k + 1) = 112) k (cx_lt h (by decide)) h
theorem to_Frm_accountsBefore {k : Nat} (h : cx_kd k = 1) : cx_kd (k + 2) = 0 := (by decide +kernel : ∀ k, k < 97 → cx_kd k = 1 → cx_kd (k + 2) = 0) k (cx_lt h (by decide)) h
theorem sh_Log (cI cR : ClassId) (b : Nat) {k : Nat} (h : cx_kd k = 2) (f : Nat → Int32) : cx_sh cI cR b k f = .inr (2, [.ref (b + (k + 1)), .ref (b + (k + 2)), .int (f 2), .int (f 3)]) := by
  unfold cx_sh
  rw [h]
  rfl
theorem to_Log_accounts {k : Nat} (h : cx_kd k = 2) : cx_kd (k + 1) = 116 := (by decide +kernel : ∀ k, k < 97 → cx_kd k = 2 → cx_kd (k + 1) = 116) k (cx_lt h (by decide)) h
theorem to_Log_numbers {k : Nat} (h : cx_kd k = 2) : cx_kd (k + 2) = 116 := (by decide +kernel : ∀ k, k < 97 → cx_kd k = 2 → cx_kd (k + 2) = 116) k (cx_lt h (by decide)) h
theorem sh_Mac (cI cR : ClassId) (b : Nat) {k : Nat} (h : cx_kd k = 3) (f : Nat → Int32) : cx_sh cI cR b k f = .inr (3, [.ref (b + (k + 1)), .ref (b + (k + 8)), .ref (b + (k + 11)), .int (f 3), .int (f 4), .int (f 5)]) := by
  unfold cx_sh
  rw [h]
  rfl
theorem to_Mac_accounts {k : Nat} (h : cx_kd k = 3) : cx_kd (k + 1) = 0 := (by decide +kernel : ∀ k, k < 97 → cx_kd k = 3 → cx_kd (k + 1) = 0) k (cx_lt h (by decide)) h
theorem to_Mac_logs {k : Nat} (h : cx_kd k = 3) : cx_kd (k + 8) = 2 := (by decide +kernel : ∀ k, k < 97 → cx_kd k = 3 → cx_kd (k + 8) = 2) k (cx_lt h (by decide)) h
theorem to_Mac_frames {k : Nat} (h : cx_kd k = 3) : cx_kd (k + 11) = 50 := (by decide +kernel : ∀ k, k < 97 → cx_kd k = 3 → cx_kd (k + 11) = 50) k (cx_lt h (by decide)) h
theorem sh_Rec (cI cR : ClassId) (b : Nat) {k : Nat} (h : cx_kd k = 4) (f : Nat → Int32) : cx_sh cI cR b k f = .inr (4, [.ref (b + (k + 1)), .ref (b + (k + 2)), .ref (b + (k + 3)), .ref (b + (k + 4)), .int (f 4)]) := by
  unfold cx_sh
  rw [h]
  rfl
theorem to_Rec_statuses {k : Nat} (h : cx_kd k = 4) : cx_kd (k + 1) = 116 := (by decide +kernel : ∀ k, k < 97 → cx_kd k = 4 → cx_kd (k + 1) = 116) k (cx_lt h (by decide)) h
theorem to_Rec_usedGas {k : Nat} (h : cx_kd k = 4) : cx_kd (k + 2) = 116 := (by decide +kernel : ∀ k, k < 97 → cx_kd k = 4 → cx_kd (k + 2) = 116) k (cx_lt h (by decide)) h
theorem to_Rec_outputs {k : Nat} (h : cx_kd k = 4) : cx_kd (k + 3) = 116 := (by decide +kernel : ∀ k, k < 97 → cx_kd k = 4 → cx_kd (k + 3) = 116) k (cx_lt h (by decide)) h
theorem to_Rec_logCounts {k : Nat} (h : cx_kd k = 4) : cx_kd (k + 4) = 116 := (by decide +kernel : ∀ k, k < 97 → cx_kd k = 4 → cx_kd (k + 4) = 116) k (cx_lt h (by decide)) h
theorem sh_Led (cI cR : ClassId) (b : Nat) {k : Nat} (h : cx_kd k = 5) (f : Nat → Int32) : cx_sh cI cR b k f = .inr (5, [.ref (b + (k + 1)), .ref (b + (k + 85)), .ref (b + (k + 92)), .int (f 3), .int (f 4), .int (f 5), .int (f 6), .int (f 7), .int (f 8), .int (f 9), .int (f 10), .int (f 11), .int (f 12), .int (f 13)]) := by
  unfold cx_sh
  rw [h]
  rfl
theorem to_Led_machine {k : Nat} (h : cx_kd k = 5) : cx_kd (k + 1) = 3 := (by decide +kernel : ∀ k, k < 97 → cx_kd k = 5 → cx_kd (k + 1) = 3) k (cx_lt h (by decide)) h
theorem to_Led_atBegin {k : Nat} (h : cx_kd k = 5) : cx_kd (k + 85) = 0 := (by decide +kernel : ∀ k, k < 97 → cx_kd k = 5 → cx_kd (k + 85) = 0) k (cx_lt h (by decide)) h
theorem to_Led_receipts {k : Nat} (h : cx_kd k = 5) : cx_kd (k + 92) = 4 := (by decide +kernel : ∀ k, k < 97 → cx_kd k = 5 → cx_kd (k + 92) = 4) k (cx_lt h (by decide)) h
theorem sh_Mod (cI cZ : ClassId) (b : Nat) {k : Nat} (h : mx_kd k = 6) (f : Nat → Int32) : mx_sh cI cZ b k f = .inr (6, [.ref (b + (k + 1)), .ref (b + (k + 2)), .int (f 2), .int (f 3), .int (f 4), .int (f 5), .int (f 6), .int (f 7), .int (f 8), .int (f 9), .int (f 10), .int (f 11), .ref (b + (k + 3)), .int (f 13), .ref (b + (k + 4)), .ref (b + (k + 5)), .int (f 16), .int (f 17), .int (f 18), .int (f 19), .ref (b + (k + 6)), .ref (b + (k + 7)), .ref (b + (k + 8)), .ref (b + (k + 9)), .ref (b + (k + 10)), .ref (b + (k + 11)), .ref (b + (k + 12)), .ref (b + (k + 13)), .ref (b + (k + 14)), .ref (b + (k + 15)), .ref (b + (k + 16)), .ref (b + (k + 17)), .int (f 32), .int (f 33), .int (f 34), .ref (b + (k + 18)), .ref (b + (k + 19)), .ref (b + (k + 20)), .ref (b + (k + 21))]) := by
  unfold mx_sh
  rw [h]
  rfl
theorem to_Mod_now {k : Nat} (h : mx_kd k = 6) : mx_kd (k + 1) = 676 := (by decide +kernel : ∀ k, k < 22 → mx_kd k = 6 → mx_kd (k + 1) = 676) k (mx_lt h (by decide)) h
theorem to_Mod_before {k : Nat} (h : mx_kd k = 6) : mx_kd (k + 2) = 676 := (by decide +kernel : ∀ k, k < 22 → mx_kd k = 6 → mx_kd (k + 2) = 676) k (mx_lt h (by decide)) h
theorem to_Mod_receipt {k : Nat} (h : mx_kd k = 6) : mx_kd (k + 3) = 164 := (by decide +kernel : ∀ k, k < 22 → mx_kd k = 6 → mx_kd (k + 3) = 164) k (mx_lt h (by decide)) h
theorem to_Mod_logAccount {k : Nat} (h : mx_kd k = 6) : mx_kd (k + 4) = 612 := (by decide +kernel : ∀ k, k < 22 → mx_kd k = 6 → mx_kd (k + 4) = 612) k (mx_lt h (by decide)) h
theorem to_Mod_logNumber {k : Nat} (h : mx_kd k = 6) : mx_kd (k + 5) = 612 := (by decide +kernel : ∀ k, k < 22 → mx_kd k = 6 → mx_kd (k + 5) = 612) k (mx_lt h (by decide)) h
theorem to_Mod_self {k : Nat} (h : mx_kd k = 6) : mx_kd (k + 6) = 108 := (by decide +kernel : ∀ k, k < 22 → mx_kd k = 6 → mx_kd (k + 6) = 108) k (mx_lt h (by decide)) h
theorem to_Mod_runs {k : Nat} (h : mx_kd k = 6) : mx_kd (k + 7) = 108 := (by decide +kernel : ∀ k, k < 22 → mx_kd k = 6 → mx_kd (k + 7) = 108) k (mx_lt h (by decide)) h
theorem to_Mod_place {k : Nat} (h : mx_kd k = 6) : mx_kd (k + 8) = 108 := (by decide +kernel : ∀ k, k < 22 → mx_kd k = 6 → mx_kd (k + 8) = 108) k (mx_lt h (by decide)) h
theorem to_Mod_caller {k : Nat} (h : mx_kd k = 6) : mx_kd (k + 9) = 108 := (by decide +kernel : ∀ k, k < 22 → mx_kd k = 6 → mx_kd (k + 9) = 108) k (mx_lt h (by decide)) h
theorem to_Mod_value {k : Nat} (h : mx_kd k = 6) : mx_kd (k + 10) = 108 := (by decide +kernel : ∀ k, k < 22 → mx_kd k = 6 → mx_kd (k + 10) = 108) k (mx_lt h (by decide)) h
theorem to_Mod_input {k : Nat} (h : mx_kd k = 6) : mx_kd (k + 11) = 108 := (by decide +kernel : ∀ k, k < 22 → mx_kd k = 6 → mx_kd (k + 11) = 108) k (mx_lt h (by decide)) h
theorem to_Mod_gas {k : Nat} (h : mx_kd k = 6) : mx_kd (k + 12) = 108 := (by decide +kernel : ∀ k, k < 22 → mx_kd k = 6 → mx_kd (k + 12) = 108) k (mx_lt h (by decide)) h
theorem to_Mod_size {k : Nat} (h : mx_kd k = 6) : mx_kd (k + 13) = 108 := (by decide +kernel : ∀ k, k < 22 → mx_kd k = 6 → mx_kd (k + 13) = 108) k (mx_lt h (by decide)) h
theorem to_Mod_stack {k : Nat} (h : mx_kd k = 6) : mx_kd (k + 14) = 196 := (by decide +kernel : ∀ k, k < 22 → mx_kd k = 6 → mx_kd (k + 14) = 196) k (mx_lt h (by decide)) h
theorem to_Mod_copies {k : Nat} (h : mx_kd k = 6) : mx_kd (k + 15) = 4708 := (by decide +kernel : ∀ k, k < 22 → mx_kd k = 6 → mx_kd (k + 15) = 4708) k (mx_lt h (by decide)) h
theorem to_Mod_refunds {k : Nat} (h : mx_kd k = 6) : mx_kd (k + 16) = 108 := (by decide +kernel : ∀ k, k < 22 → mx_kd k = 6 → mx_kd (k + 16) = 108) k (mx_lt h (by decide)) h
theorem to_Mod_logsThen {k : Nat} (h : mx_kd k = 6) : mx_kd (k + 17) = 108 := (by decide +kernel : ∀ k, k < 22 → mx_kd k = 6 → mx_kd (k + 17) = 108) k (mx_lt h (by decide)) h
theorem to_Mod_node {k : Nat} (h : mx_kd k = 6) : mx_kd (k + 18) = 132 := (by decide +kernel : ∀ k, k < 22 → mx_kd k = 6 → mx_kd (k + 18) = 132) k (mx_lt h (by decide)) h
theorem to_Mod_has {k : Nat} (h : mx_kd k = 6) : mx_kd (k + 19) = 10016 := (by decide +kernel : ∀ k, k < 22 → mx_kd k = 6 → mx_kd (k + 19) = 10016) k (mx_lt h (by decide)) h
theorem to_Mod_worth {k : Nat} (h : mx_kd k = 6) : mx_kd (k + 20) = 116 := (by decide +kernel : ∀ k, k < 22 → mx_kd k = 6 → mx_kd (k + 20) = 116) k (mx_lt h (by decide)) h
theorem to_Mod_values {k : Nat} (h : mx_kd k = 6) : mx_kd (k + 21) = 116 := (by decide +kernel : ∀ k, k < 22 → mx_kd k = 6 → mx_kd (k + 21) = 116) k (mx_lt h (by decide)) h
theorem sh_frames (cI cR : ClassId) (b : Nat) {k : Nat} (h : cx_kd k = 50) (f : Nat → Int32) : cx_sh cI cR b k f = .inl (cR, 8, .inr (.inr (.inr (.inr (fun j => some (b + (k + (1 + 9 * j)))))))) := by
  unfold cx_sh
  rw [h]
  rfl
theorem to_frame {k i : Nat} (h : cx_kd k = 50) (hi : i < 8) : cx_kd (k + (1 + 9 * i)) = 1 := (by decide +kernel : ∀ k, k < 97 → cx_kd k = 50 → ∀ i, i < 8 → cx_kd (k + (1 + 9 * i)) = 1) k (cx_lt h (by decide)) h i hi
theorem sh_arr (cI cR : ClassId) (b : Nat) {k n : Nat} (h : cx_kd k = 100 + n) (f : Nat → Int32) : cx_sh cI cR b k f = .inl (cI, n, .inl f) := by
  unfold cx_sh
  rw [h, if_pos (by omega), Nat.add_sub_cancel_left]
theorem sh_arrP (cI cR : ClassId) (b : Nat) {k : Nat} (h : 100 ≤ cx_kd k) (f : Nat → Int32) : cx_sh cI cR b k f = .inl (cI, cx_kd k - 100, .inl f) := by
  unfold cx_sh
  rw [if_pos h]
theorem mh_arr (cI cZ : ClassId) (b : Nat) {k n : Nat} (h : mx_kd k = 100 + n) (hn : n < 9900) (f : Nat → Int32) : mx_sh cI cZ b k f = .inl (cI, n, .inl f) := by
  unfold mx_sh
  rw [h, if_neg (by omega), if_pos (by omega), Nat.add_sub_cancel_left]
theorem mh_arrZ (cI cZ : ClassId) (b : Nat) {k n : Nat} (h : mx_kd k = 10000 + n) (f : Nat → Int32) : mx_sh cI cZ b k f = .inl (cZ, n, .inl f) := by
  unfold mx_sh
  rw [h, if_pos (by omega), Nat.add_sub_cancel_left]
def cx_prices (j : Nat) : Int32 := ([0, 1, 1, 1, 1, 1, 1, 2, 2, 1, 1, 1, 3, 4, 10, 10, 10, 1, 1, 1, 1, 1, 30, 30, 60, 12, 0, 0, 20, 0, 0, 0] : List Int32).getD j 0
def cx_needs (j : Nat) : Int32 := ([0, 0, 1, 0, 0, 2, 2, 2, 2, 2, 2, 1, 1, 2, 1, 2, 1, 0, 0, 0, 0, 0, 4, 3, 3, 1, 1, 1, 1, 13, 13, 13] : List Int32).getD j 0
def cx_X (b tP tN : Nat) (s : State) : Prop := va_Z "GasLedger$Machine" "PRICES" "[I" (.ref tP) (gx_A b 97) s s.heap ∧ va_T .int tP 32 (fun j => .int (cx_prices j)) (gx_A b 97) s s.heap ∧ va_Z "GasLedger$Machine" "NEEDS" "[I" (.ref tN) (gx_A b 97) s s.heap ∧ va_T .int tN 32 (fun j => .int (cx_needs j)) (gx_A b 97) s s.heap
theorem cx_XX (b tP tN : Nat) : gx_X b 97 (cx_X b tP tN) := by
  constructor
  · intro s U H locs hX hS hU hv
    obtain ⟨h1, h2, h3, h4⟩ := hX
    have hk : ∀ a : Nat, a < s.heap.size → ¬ gx_A b 97 a → U.heap[a]? = s.heap[a]? := fun a ha hA => by rw [hU]; exact hS.2.1 a ha hA
    exact ⟨(h1.kept hk).moved hv, (h2.kept hk).moved hv, (h3.kept hk).moved hv, (h4.kept hk).moved hv⟩
  · intro a U g mk hX
    obtain ⟨h1, h2, h3, h4⟩ := hX
    exact ⟨h1.moved (U := U.calling g mk a) (Vm.Alike.refl U.vm), h2.moved (U := U.calling g mk a) (Vm.Alike.refl U.vm), h3.moved (U := U.calling g mk a) (Vm.Alike.refl U.vm), h4.moved (U := U.calling g mk a) (Vm.Alike.refl U.vm)⟩
def mx_X (s : State) : Prop := s = s
theorem mx_XX (b : Nat) : gx_X b 22 mx_X := ⟨fun _ _ _ _ _ _ _ _ => rfl, fun _ _ _ _ _ => rfl⟩
abbrev gx_ty (cI cR cZ : ClassId) : List (ClassId × FieldType) := [(cI, .int), (cR, .object "GasLedger$Frame"), (cZ, .boolean)]
abbrev cx_C (l : Launch) (dC : Nat → ClassId) (dI : Nat → Nat → Nat) (cI cR cZ : ClassId) (b tP tN : Nat) (y : MethodName) (w : List Cond) (rm : Room) (av : List Value) (V : gx_M) (r : Option Value) (V' : gx_M) : Prop := gx_C l y w rm (dC, dI) cx_cl (gx_ty cI cR cZ) b 97 (cx_sh cI cR b) (cx_X b tP tN) av V r V'
abbrev mx_C (l : Launch) (dC : Nat → ClassId) (dI : Nat → Nat → Nat) (cI cR cZ : ClassId) (b tP tN : Nat) (y : MethodName) (w : List Cond) (rm : Room) (av : List Value) (V : gx_M) (r : Option Value) (V' : gx_M) : Prop := gx_C l y w rm (dC, dI) cx_cl (gx_ty cI cR cZ) b 22 (mx_sh cI cZ b) mx_X av V r V'
/-! helpers of the walks -/
abbrev gx_ib (i : Int32) (n : Nat) : Prop := ¬ (i < 0 ∨ n ≤ i.toNatClampNeg)
theorem gx_pos {α : Type} {c : Prop} {d : Decidable c} {t e r : α} (hc : c) (h : @ite α c d t e = r) : t = r := by rw [if_pos hc] at h; exact h
theorem gx_neg {α : Type} {c : Prop} {d : Decidable c} {t e r : α} (hc : ¬ c) (h : @ite α c d t e = r) : e = r := by rw [if_neg hc] at h; exact h
theorem gx_if {α : Type} {c : Prop} {d : Decidable c} {t : Option α} {r : α} (h : @ite (Option α) c d t none = some r) : c ∧ t = some r := by
  by_cases hc : c
  · exact ⟨hc, gx_pos hc h⟩
  · exact absurd (gx_neg hc h) (by simp)
theorem gx_bd {α β : Type} {o : Option α} {f : α → Option β} {r : β} (h : o.bind f = some r) : ∃ q, o = some q ∧ f q = some r := by
  cases o with
  | none => cases h
  | some q => exact ⟨q, rfl, h⟩
def gx_let {α β : Type} (a : α) (f : α → Option β) : Option β := f a
theorem gx_lt {α β : Type} {a : α} {f : α → Option β} {r : β} (h : gx_let a f = some r) : ∃ v, v = a ∧ f v = some r := ⟨a, rfl, h⟩
theorem gx_plt {k : Nat} (h : 100 ≤ cx_kd k) : k < 97 := cx_lt (c := cx_kd k) rfl (by omega)
theorem gx_lko {ps : List (Int × Int)} {dflt x : Int} (h : ∀ q ∈ ps, x ≠ q.1) : Op.lookupswitch.offset ps dflt x = dflt := by
  induction ps with
  | nil => rfl
  | cons q ps ih =>
    obtain ⟨k, o⟩ := q
    have h1 : x ≠ k := h (k, o) List.mem_cons_self
    have h2 := ih (fun q hq => h q (List.mem_cons_of_mem _ hq))
    rw [Op.lookupswitch.offset_cons, if_neg (fun e => h1 e.symm)]
    exact h2
theorem gx_inc {x a c : Int32} (h : a = c) : x + a = x + c := by rw [h]
theorem gx_nz {x : Int32} (h : x = 0 ∨ x = 1) : narrow .boolean (.int x) = .int x := by
  rcases h with rfl | rfl <;> rfl
theorem gx_fz {x : Int32} (h : x = 0 ∨ x = 1) : fits .boolean (.int x) = true := by
  rcases h with rfl | rfl <;> rfl
theorem gx_ne {x c : Int32} {n : Int} (h : ¬ x = c) (hn : c.toInt = n) : x.toInt ≠ n := fun e => h (Int32.toInt_inj.mp (e.trans hn.symm))
theorem gx_ilt {i : Int32} {n : Nat} (h : gx_ib i n) : i.toNatClampNeg < n := Nat.not_le.mp fun q => h (Or.inr q)
theorem tm_min : Cond.code Lib.Math.min.name Lib.Math.min.code 2 (some .int) ∈ cx_tb := gx_tb 385 (by decide +kernel) (by decide +kernel)
theorem tm_max : Cond.code Lib.Math.max.name Lib.Math.max.code 2 (some .int) ∈ cx_tb := gx_tb 388 (by decide +kernel) (by decide +kernel)
section GY
variable {p : Program} {l : Launch} {e : Env} {R : Room} {s : State} {m : MethodId} {args : Array Value} {below : List Frame} {meth : Method} {c : Code} {H : Heap} {locs : List Loc} {cells slots : Nat} {Q : State → Prop}
variable {cc : ByteArray} {pc : Nat} {ls : Array Slot} {rest st0 : List Value} {D : va_G} {cl : List vw_C} {tys : List (ClassId × FieldType)} {H0 : Heap} {b N : Nat} {sh : Nat → (Nat → Int32) → va_E} {V V' V2 : gx_M} {X : State → Prop}
theorem gy_put (hexec : p.tables.exec = Jvm.exec) (hb : c.code = cc) {own ref C : String} {T : u_T} {NF ci index : Nat} {Ts : List Cond} (hts : ∀ w ∈ Ts, w.before args s = true) (hin : ∀ w ∈ u_ws C T NF, w ∈ Ts) (ty0 : Nat → FieldType) (hty : ∀ k, k < NF → parseFieldDescriptor (T k).2.2.1 = some (ty0 k)) (hnm : ∀ a, a < NF → ∀ b, b < NF → a ≠ b → (T a).2.1 ≠ (T b).2.1) (hown : s.vm.findClass own = some m.cls) (hK : va_K D cl tys s) (hP : va_P D cl (gx_w b N (gx_v sh V)) H) (hS : va_S (gx_A b N) H0 H locs) (k0 : Nat) (hk0 : k0 < N) {fs : List Value} (he : sh k0 (V k0) = .inr (ci, fs)) (hc : cl[ci]? = some (C, T, NF)) (k : Nat) (hk : k < NF) (hlink : (Cond.fieldLink own index ref (T k).2.1 (T k).2.2.1).before args s = true) (hsame : ∀ x, s.fieldFound? (T k).1 (T k).2.1 (T k).2.2.1 = some x → s.fieldFound? ref (T k).2.1 (T k).2.2.1 = some x) (hfin : (T k).2.2.2 = false) {ty : FieldType} {x : Int32} (hd : parseFieldDescriptor (T k).2.2.1 = some ty) (hn : narrow ty (.int x) = .int x) (hfit : fits ty (.int x) = true) (hl : k < fs.length) (q : Nat) (hu : sh k0 (upd (V k0) q x) = .inr (ci, fs.set k (.int x)))
    (hdg : decode cc pc = .ok (.putfield index, 3)) (hV : V2 = gx_u V k0 q x) (kk : ∀ (H1 : Heap) (locs1 : List Loc), va_P D cl (gx_w b N (gx_v sh V2)) H1 → va_S (gx_A b N) H0 H1 locs1 → W p l e R s m args below meth c H1 locs1 cells slots Q (F0 m (pc + 3) ls rest)) : W p l e R s m args below meth c H locs cells slots Q (F0 m pc ls (.int x :: .ref (b + k0) :: rest)) := by
  subst hV
  exact gx_put hexec hb hts hin ty0 hty hnm hown hK hP hS k0 hk0 he hc k hk hlink hsame hfin hd hn hfit hl q hu hdg kk
theorem gx_asi (hexec : p.tables.exec = Jvm.exec) (hb : c.code = cc) (hK : va_K D cl tys s) (hP : va_P D cl (gx_w b N (gx_v sh V)) H) (hS : va_S (gx_A b N) H0 H locs) (k0 t0 : Nat) (hk0 : k0 < N) {cA : ClassId} {n : Nat} (he : ∀ f, sh k0 f = .inl (cA, n, .inl f)) (ht : tys[t0]? = some (cA, .int)) {i x : Int32} (hin : gx_ib i n) (hdg : decode cc pc = .ok (.iastore, 1)) (hV : V2 = gx_u V k0 i.toNatClampNeg x)
    (kk : ∀ (H1 : Heap) (locs1 : List Loc), va_P D cl (gx_w b N (gx_v sh V2)) H1 → va_S (gx_A b N) H0 H1 locs1 → W p l e R s m args below meth c H1 locs1 cells slots Q (F0 m (pc + 1) ls rest)) : W p l e R s m args below meth c H locs cells slots Q (F0 m pc ls (.int x :: .int i :: .ref (b + k0) :: rest)) := by
  subst hV
  refine va_iast hexec hb hK hP gx_D hS k0 t0 (gx_at hk0 (he _)) ht hin hdg (fun H1 locs1 hP1 _ hS1 => kk H1 locs1 ?_ hS1)
  rw [gx_set, ← he, gx_vset] at hP1
  exact hP1
theorem gx_asz (hexec : p.tables.exec = Jvm.exec) (hb : c.code = cc) (hK : va_K D cl tys s) (hP : va_P D cl (gx_w b N (gx_v sh V)) H) (hS : va_S (gx_A b N) H0 H locs) (k0 t0 : Nat) (hk0 : k0 < N) {cA : ClassId} {n : Nat} (he : ∀ f, sh k0 f = .inl (cA, n, .inl f)) (ht : tys[t0]? = some (cA, .boolean)) {i x : Int32} (hin : gx_ib i n) (hdg : decode cc pc = .ok (.bastore, 1)) (hV : V2 = gx_u V k0 i.toNatClampNeg (vp_nar .boolean x))
    (kk : ∀ (H1 : Heap) (locs1 : List Loc), va_P D cl (gx_w b N (gx_v sh V2)) H1 → va_S (gx_A b N) H0 H1 locs1 → W p l e R s m args below meth c H1 locs1 cells slots Q (F0 m (pc + 1) ls rest)) : W p l e R s m args below meth c H locs cells slots Q (F0 m pc ls (.int x :: .int i :: .ref (b + k0) :: rest)) := by
  subst hV
  refine va_zast hexec hb hK hP gx_D hS k0 t0 (gx_at hk0 (he _)) ht hin hdg (fun H1 locs1 hP1 _ hS1 => kk H1 locs1 ?_ hS1)
  rw [gx_set, ← he, gx_vset] at hP1
  exact hP1
theorem gx_copy {a0 : Nat} (hexec : p.tables.exec = Jvm.exec) (hb : c.code = cc) (hml : c.maxLocals = ls.size) {own : String} {index : Nat} (hown : s.vm.findClass own = some m.cls) (hlink : (Cond.methodLink own index arraycopyName).before args s = true) (hnat : (Cond.native arraycopyName).before args s = true) (hstat : (Cond.static arraycopyName).before args s = true) (hini : (Cond.initialized "java/lang/System").before args s = true)
    (hK : va_K D cl tys s) (hP : va_P D cl (gx_w b N (gx_v sh V)) H) (hS : va_S (gx_A b N) H0 H locs) (k0 k1 t0 : Nat) (hk0 : k0 < N) (hk1 : k1 < N) {cA : ClassId} {n0 n1 : Nat} (he0 : ∀ f, sh k0 f = .inl (cA, n0, .inl f)) (he1 : ∀ f, sh k1 f = .inl (cA, n1, .inl f)) (ht : tys[t0]? = some (cA, .int)) {n : Int32} {nn : Nat} (hn : ¬ n < 0) (hnn : n.toNatClampNeg = nn) (h0 : nn ≤ n0) (h1 : nn ≤ n1)
    (hframes : 1 ≤ R.frames) (hlocals : (rest.map fun v => v.category).sum + (nativeFrameWords "java/lang/System" "arraycopy" 5 + 11) ≤ R.locals) (hdg : decode cc pc = .ok (.invokestatic index, 3)) (hV : V2 = va_up V k1 (va_cpy (V k0) (V k1) 0 0 nn))
    (kk : ∀ (H1 : Heap) (locs1 : List Loc), va_P D cl (gx_w b N (gx_v sh V2)) H1 → va_S (gx_A b N) H0 H1 locs1 → W p l e R s m args below meth c H1 locs1 cells slots Q (F0 m (pc + 3) ls rest)) : W p l e R s m args below meth c H locs cells slots Q (F0 m pc ls (.int n :: .int 0 :: .ref (b + k1) :: .int 0 :: .ref (b + k0) :: rest)) := by
  subst hV
  subst hnn
  refine va_copyi hexec hb hml hown hlink hnat hstat hini hK hP gx_D hS k0 k1 t0 t0 (gx_at hk0 (he0 _)) (gx_at hk1 (he1 _)) ht ht rfl (by decide) (by decide) hn (by show 0 + _ ≤ _; omega) (by show 0 + _ ≤ _; omega) (fun _ _ => rfl) hframes hlocals hdg (fun H1 locs1 hP1 _ hS1 => kk H1 locs1 ?_ hS1)
  rw [gx_set, ← he1, gx_vset] at hP1
  exact hP1
theorem gx_cw {own C : String} {index maxL : Nat} {y : MethodName} {bytes : ByteArray} {ret : Option FieldType} {rm : Room} (n : Nat) (hts : ∀ w ∈ cx_tb, w.before args s = true) (hcode : Cond.code y bytes maxL ret ∈ cx_tb) (hini : Cond.initialized y.cls ∈ cx_tb) (hlink : Cond.methodLink own index y ∈ cx_tb) (hinst : Cond.instanceMethod y ∈ cx_tb) (hsel : Cond.selects C y y ∈ cx_tb) (hrc : rm.cells = 0) (hrs : rm.slots = 0)
    (hd : y.cls ≠ "java/lang/invoke/MethodHandle" ∧ y.cls ≠ "java/lang/invoke/VarHandle" ∧ (parseMethodDescriptor y.desc).map (fun d => d.parameters.length) = some n) (hR : rm.frames + 1 ≤ R.frames ∧ 8 + (maxL + 11) + rm.locals ≤ R.locals) : CallW R s args own C index y bytes maxL ret (Cond.code y bytes maxL ret :: cx_tb) rm 0 0 n :=
  ⟨callB_of n hts (gx_good hcode) rfl hrc hrs (hts _ hini) (hts _ hlink) hd hR, hts _ hinst, hts _ hsel⟩
theorem gx_cs {own : String} {index maxL : Nat} {y : MethodName} {bytes : ByteArray} {ret : Option FieldType} {rm : Room} (n : Nat) (hts : ∀ w ∈ cx_tb, w.before args s = true) (hcode : Cond.code y bytes maxL ret ∈ cx_tb) (hini : Cond.initialized y.cls ∈ cx_tb) (hlink : Cond.methodLink own index y ∈ cx_tb) (hst : Cond.static y ∈ cx_tb) (hrc : rm.cells = 0) (hrs : rm.slots = 0)
    (hd : y.cls ≠ "java/lang/invoke/MethodHandle" ∧ y.cls ≠ "java/lang/invoke/VarHandle" ∧ (parseMethodDescriptor y.desc).map (fun d => d.parameters.length) = some n) (hR : rm.frames + 1 ≤ R.frames ∧ 8 + (maxL + 11) + rm.locals ≤ R.locals) : CallB R s args own index y bytes maxL ret (Cond.code y bytes maxL ret :: cx_tb) rm 0 0 n ∧ (Cond.static y).before args s = true :=
  ⟨callB_of n hts (gx_good hcode) rfl hrc hrs (hts _ hini) (hts _ hlink) hd hR, hts _ hst⟩
theorem gx_cn {own host : String} {index maxL : Nat} {y : MethodName} {bytes : ByteArray} {ret : Option FieldType} {rm : Room} (n : Nat) (hts : ∀ w ∈ cx_tb, w.before args s = true) (hcode : Cond.code y bytes maxL ret ∈ cx_tb) (hini : Cond.initialized y.cls ∈ cx_tb) (hlink : Cond.methodLinkNest own index y host ∈ cx_tb) (hst : Cond.static y ∈ cx_tb) (hrc : rm.cells = 0) (hrs : rm.slots = 0)
    (hd : y.cls ≠ "java/lang/invoke/MethodHandle" ∧ y.cls ≠ "java/lang/invoke/VarHandle" ∧ (parseMethodDescriptor y.desc).map (fun d => d.parameters.length) = some n) (hR : rm.frames + 1 ≤ R.frames ∧ 8 + (maxL + 11) + rm.locals ≤ R.locals) : va_CN R s args own index y host bytes maxL ret (Cond.code y bytes maxL ret :: cx_tb) rm 0 0 n ∧ (Cond.static y).before args s = true ∧ True := by
  refine ⟨?_, hts _ hst, trivial⟩
  have hc : Cond.code y bytes maxL ret ∈ Cond.code y bytes maxL ret :: cx_tb := List.mem_cons_self
  refine ⟨⟨hrc, hrs, hR.1, hR.2, pay_in hts (gx_good hcode), hc⟩, hts _ hcode, hts _ hini, ⟨hd.1, hd.2.1⟩, fun sig h => ?_, hts _ hlink⟩
  have h2 := hd.2.2
  rw [h] at h2
  exact (Option.some.inj h2).symm
theorem gx_ci {r : Int32} {a : Array Value} (hr : va_Run p l e R s m args below meth c H locs cells slots 0 0 (F0 m pc ls st0) rest (gx_Q D cl b N sh (some (.int r)) V' a) (gx_A b N)) (hS : va_S (gx_A b N) H0 H locs)
    (kk : ∀ (H1 : Heap) (locs1 : List Loc), va_P D cl (gx_w b N (gx_v sh V')) H1 → va_S (gx_A b N) H0 H1 locs1 → W p l e R s m args below meth c H1 locs1 cells slots Q (F0 m (pc + 3) ls (.int r :: rest))) : W p l e R s m args below meth c H locs cells slots Q (F0 m pc ls st0) :=
  gx_call hr hS (fun _ h => h) (fun H1 locs1 h1 h2 _ _ => kk H1 locs1 h1 h2)
theorem gx_cv {a : Array Value} (hr : va_Run p l e R s m args below meth c H locs cells slots 0 0 (F0 m pc ls st0) rest (gx_Q D cl b N sh none V' a) (gx_A b N)) (hS : va_S (gx_A b N) H0 H locs)
    (kk : ∀ (H1 : Heap) (locs1 : List Loc), va_P D cl (gx_w b N (gx_v sh V')) H1 → va_S (gx_A b N) H0 H1 locs1 → W p l e R s m args below meth c H1 locs1 cells slots Q (F0 m (pc + 3) ls rest)) : W p l e R s m args below meth c H locs cells slots Q (F0 m pc ls st0) :=
  gx_call hr hS (fun _ h => h) (fun H1 locs1 h1 h2 _ _ => kk H1 locs1 h1 h2)
theorem gx_cr {r : Nat} {a : Array Value} (hr : va_Run p l e R s m args below meth c H locs cells slots 0 0 (F0 m pc ls st0) rest (gx_Q D cl b N sh (some (.ref (b + r))) V' a) (gx_A b N)) (hS : va_S (gx_A b N) H0 H locs)
    (kk : ∀ (H1 : Heap) (locs1 : List Loc), va_P D cl (gx_w b N (gx_v sh V')) H1 → va_S (gx_A b N) H0 H1 locs1 → W p l e R s m args below meth c H1 locs1 cells slots Q (F0 m (pc + 3) ls (.ref (b + r) :: rest))) : W p l e R s m args below meth c H locs cells slots Q (F0 m pc ls st0) :=
  gx_call hr hS (fun _ h => h) (fun H1 locs1 h1 h2 _ _ => kk H1 locs1 h1 h2)
theorem gx_aald {cI cR : ClassId} (hexec : p.tables.exec = Jvm.exec) (hb : c.code = cc) (hK : va_K D cl tys s) (hP : va_P D cl (gx_w b 97 (gx_v (cx_sh cI cR b) V)) H) (k0 t0 : Nat) (hk : cx_kd k0 = 50) (ht : tys[t0]? = some (cR, .object "GasLedger$Frame")) {i : Int32} (hin : gx_ib i 8) (hdg : decode cc pc = .ok (.aaload, 1))
    (kk : W p l e R s m args below meth c H locs cells slots Q (F0 m (pc + 1) ls (.ref (b + (k0 + (1 + 9 * i.toNatClampNeg))) :: rest))) : W p l e R s m args below meth c H locs cells slots Q (F0 m pc ls (.int i :: .ref (b + k0) :: rest)) :=
  va_aldq (f := fun j => some (b + (k0 + (1 + 9 * j)))) hexec hb hK hP k0 t0 (gx_at (cx_lt hk (by decide)) (sh_frames cI cR b hk _)) ht hin hdg kk
theorem gx_aret {r : Option Value} {v : Nat} {rt : FieldType} (hexec : p.tables.exec = Jvm.exec) (hb : c.code = cc) (hr : meth.sig.returnType = some rt) (hrt : (∃ n, rt = .object n) ∨ ∃ t, rt = .array t) (hlk : meth.locks = false) (hP : va_P D cl (gx_w b N (gx_v sh V)) H) (hS : va_S (gx_A b N) s.heap H locs) (hdg : decode cc pc = .ok (.areturn, 1)) (hv : some (.ref v) = r) (hV : V = V') :
    W p l e R s m args below meth c H locs cells slots (MQ below (gx_Q D cl b N sh r V') args s cells slots (gx_A b N)) (F0 m pc ls [.ref v]) := by
  subst hv; subst hV
  exact W.aret hexec hb hr hrt (Or.inr ⟨_, rfl⟩) (fun t ht _ => ⟨rfl, by rw [ht]; exact hP, hS.F ht⟩) hS.2.2 hdg
end GY
end
