section
-- ===== PART A: goes FIRST, ahead of the names: the tables' words, and 'selects' of the private methods out of them =====
/-- a private method of a class that the tables say can be made, by its rows of tables_1 -/
def lw_okq (q : MethodName × Nat) : Prop := (q.1.cls ≠ "java/lang/invoke/MethodHandle" ∧ q.1.cls ≠ "java/lang/invoke/VarHandle") ∧ Cond.instantiable q.1.cls q.2 ∈ tables_1 ∧ Cond.privateMethod q.1 ∈ tables_1 ∧ Cond.instanceMethod q.1 ∈ tables_1
theorem lw_p0 : lw_okq (⟨"GasLedger", "refusalOf", "(IIIIII)I"⟩, 14) := ⟨⟨by decide +kernel, by decide +kernel⟩, List.mem_of_getElem? (i := 12) (by decide +kernel), List.mem_of_getElem? (i := 291) (by decide +kernel), List.mem_of_getElem? (i := 292) (by decide +kernel)⟩
theorem lw_p1 : lw_okq (⟨"GasLedger", "perform", "(IIIIII)I"⟩, 14) := ⟨⟨by decide +kernel, by decide +kernel⟩, List.mem_of_getElem? (i := 12) (by decide +kernel), List.mem_of_getElem? (i := 295) (by decide +kernel), List.mem_of_getElem? (i := 296) (by decide +kernel)⟩
theorem lw_p2 : lw_okq (⟨"GasLedger$Machine", "enter", "(IIIIII)V"⟩, 6) := ⟨⟨by decide +kernel, by decide +kernel⟩, List.mem_of_getElem? (i := 20) (by decide +kernel), List.mem_of_getElem? (i := 303) (by decide +kernel), List.mem_of_getElem? (i := 304) (by decide +kernel)⟩
theorem lw_p3 : lw_okq (⟨"GasLedger$Machine", "step", "(LGasLedger$Frame;)V"⟩, 6) := ⟨⟨by decide +kernel, by decide +kernel⟩, List.mem_of_getElem? (i := 20) (by decide +kernel), List.mem_of_getElem? (i := 317) (by decide +kernel), List.mem_of_getElem? (i := 318) (by decide +kernel)⟩
theorem lw_p4 : lw_okq (⟨"GasLedger$Machine", "priceOf", "(LGasLedger$Frame;I)I"⟩, 6) := ⟨⟨by decide +kernel, by decide +kernel⟩, List.mem_of_getElem? (i := 20) (by decide +kernel), List.mem_of_getElem? (i := 326) (by decide +kernel), List.mem_of_getElem? (i := 327) (by decide +kernel)⟩
theorem lw_p5 : lw_okq (⟨"GasLedger$Machine", "jump", "(LGasLedger$Frame;I)V"⟩, 6) := ⟨⟨by decide +kernel, by decide +kernel⟩, List.mem_of_getElem? (i := 20) (by decide +kernel), List.mem_of_getElem? (i := 372) (by decide +kernel), List.mem_of_getElem? (i := 373) (by decide +kernel)⟩
theorem lw_p6 : lw_okq (⟨"GasLedger$Machine", "jumpIf", "(LGasLedger$Frame;)V"⟩, 6) := ⟨⟨by decide +kernel, by decide +kernel⟩, List.mem_of_getElem? (i := 20) (by decide +kernel), List.mem_of_getElem? (i := 376) (by decide +kernel), List.mem_of_getElem? (i := 377) (by decide +kernel)⟩
theorem lw_p7 : lw_okq (⟨"GasLedger$Machine", "store", "(LGasLedger$Frame;)V"⟩, 6) := ⟨⟨by decide +kernel, by decide +kernel⟩, List.mem_of_getElem? (i := 20) (by decide +kernel), List.mem_of_getElem? (i := 380) (by decide +kernel), List.mem_of_getElem? (i := 381) (by decide +kernel)⟩
theorem lw_p8 : lw_okq (⟨"GasLedger$Machine", "callOther", "(LGasLedger$Frame;)V"⟩, 6) := ⟨⟨by decide +kernel, by decide +kernel⟩, List.mem_of_getElem? (i := 20) (by decide +kernel), List.mem_of_getElem? (i := 385) (by decide +kernel), List.mem_of_getElem? (i := 386) (by decide +kernel)⟩
theorem lw_p9 : lw_okq (⟨"GasLedger$Machine", "canEnter", "(I)Z"⟩, 6) := ⟨⟨by decide +kernel, by decide +kernel⟩, List.mem_of_getElem? (i := 20) (by decide +kernel), List.mem_of_getElem? (i := 389) (by decide +kernel), List.mem_of_getElem? (i := 390) (by decide +kernel)⟩
theorem lw_p10 : lw_okq (⟨"GasLedger$Machine", "pushNoFrame", "(LGasLedger$Frame;)V"⟩, 6) := ⟨⟨by decide +kernel, by decide +kernel⟩, List.mem_of_getElem? (i := 20) (by decide +kernel), List.mem_of_getElem? (i := 394) (by decide +kernel), List.mem_of_getElem? (i := 395) (by decide +kernel)⟩
theorem lw_p11 : lw_okq (⟨"GasLedger$Machine", "takeGas", "(LGasLedger$Frame;I)I"⟩, 6) := ⟨⟨by decide +kernel, by decide +kernel⟩, List.mem_of_getElem? (i := 20) (by decide +kernel), List.mem_of_getElem? (i := 402) (by decide +kernel), List.mem_of_getElem? (i := 403) (by decide +kernel)⟩
theorem lw_p12 : lw_okq (⟨"GasLedger$Machine", "delegate", "(LGasLedger$Frame;)V"⟩, 6) := ⟨⟨by decide +kernel, by decide +kernel⟩, List.mem_of_getElem? (i := 20) (by decide +kernel), List.mem_of_getElem? (i := 406) (by decide +kernel), List.mem_of_getElem? (i := 407) (by decide +kernel)⟩
theorem lw_p13 : lw_okq (⟨"GasLedger$Machine", "create", "(LGasLedger$Frame;)V"⟩, 6) := ⟨⟨by decide +kernel, by decide +kernel⟩, List.mem_of_getElem? (i := 20) (by decide +kernel), List.mem_of_getElem? (i := 410) (by decide +kernel), List.mem_of_getElem? (i := 411) (by decide +kernel)⟩
theorem lw_p14 : lw_okq (⟨"GasLedger$Accounts", "filledSlots", "(I)I"⟩, 6) := ⟨⟨by decide +kernel, by decide +kernel⟩, List.mem_of_getElem? (i := 26) (by decide +kernel), List.mem_of_getElem? (i := 422) (by decide +kernel), List.mem_of_getElem? (i := 423) (by decide +kernel)⟩
theorem lw_p15 : lw_okq (⟨"GasLedger$Machine", "endSelf", "(LGasLedger$Frame;)V"⟩, 6) := ⟨⟨by decide +kernel, by decide +kernel⟩, List.mem_of_getElem? (i := 20) (by decide +kernel), List.mem_of_getElem? (i := 435) (by decide +kernel), List.mem_of_getElem? (i := 436) (by decide +kernel)⟩
def lw_privs_1 : List (MethodName × Nat) := [(⟨"GasLedger", "refusalOf", "(IIIIII)I"⟩, 14), (⟨"GasLedger", "perform", "(IIIIII)I"⟩, 14), (⟨"GasLedger$Machine", "enter", "(IIIIII)V"⟩, 6), (⟨"GasLedger$Machine", "step", "(LGasLedger$Frame;)V"⟩, 6), (⟨"GasLedger$Machine", "priceOf", "(LGasLedger$Frame;I)I"⟩, 6), (⟨"GasLedger$Machine", "jump", "(LGasLedger$Frame;I)V"⟩, 6), (⟨"GasLedger$Machine", "jumpIf", "(LGasLedger$Frame;)V"⟩, 6), (⟨"GasLedger$Machine", "store", "(LGasLedger$Frame;)V"⟩, 6), (⟨"GasLedger$Machine", "callOther", "(LGasLedger$Frame;)V"⟩, 6), (⟨"GasLedger$Machine", "canEnter", "(I)Z"⟩, 6), (⟨"GasLedger$Machine", "pushNoFrame", "(LGasLedger$Frame;)V"⟩, 6), (⟨"GasLedger$Machine", "takeGas", "(LGasLedger$Frame;I)I"⟩, 6), (⟨"GasLedger$Machine", "delegate", "(LGasLedger$Frame;)V"⟩, 6), (⟨"GasLedger$Machine", "create", "(LGasLedger$Frame;)V"⟩, 6), (⟨"GasLedger$Accounts", "filledSlots", "(I)I"⟩, 6), (⟨"GasLedger$Machine", "endSelf", "(LGasLedger$Frame;)V"⟩, 6)]
theorem lw_r1 : ∀ q ∈ lw_privs_1, lw_okq q := List.forall_mem_cons.mpr ⟨lw_p0, List.forall_mem_cons.mpr ⟨lw_p1, List.forall_mem_cons.mpr ⟨lw_p2, List.forall_mem_cons.mpr ⟨lw_p3, List.forall_mem_cons.mpr ⟨lw_p4, List.forall_mem_cons.mpr ⟨lw_p5, List.forall_mem_cons.mpr ⟨lw_p6, List.forall_mem_cons.mpr ⟨lw_p7, List.forall_mem_cons.mpr ⟨lw_p8, List.forall_mem_cons.mpr ⟨lw_p9, List.forall_mem_cons.mpr ⟨lw_p10, List.forall_mem_cons.mpr ⟨lw_p11, List.forall_mem_cons.mpr ⟨lw_p12, List.forall_mem_cons.mpr ⟨lw_p13, List.forall_mem_cons.mpr ⟨lw_p14, List.forall_mem_cons.mpr ⟨lw_p15, fun _ h => absurd h List.not_mem_nil⟩⟩⟩⟩⟩⟩⟩⟩⟩⟩⟩⟩⟩⟩⟩⟩
theorem lw_p16 : lw_okq (⟨"GasLedger$Machine", "resultOf", "(LGasLedger$Frame;II)I"⟩, 6) := ⟨⟨by decide +kernel, by decide +kernel⟩, List.mem_of_getElem? (i := 20) (by decide +kernel), List.mem_of_getElem? (i := 439) (by decide +kernel), List.mem_of_getElem? (i := 440) (by decide +kernel)⟩
theorem lw_p17 : lw_okq (⟨"GasLedger$Machine", "leave", "(LGasLedger$Frame;)V"⟩, 6) := ⟨⟨by decide +kernel, by decide +kernel⟩, List.mem_of_getElem? (i := 20) (by decide +kernel), List.mem_of_getElem? (i := 450) (by decide +kernel), List.mem_of_getElem? (i := 451) (by decide +kernel)⟩
theorem lw_p18 : lw_okq (⟨"GasLedger$Machine", "undo", "(LGasLedger$Frame;)V"⟩, 6) := ⟨⟨by decide +kernel, by decide +kernel⟩, List.mem_of_getElem? (i := 20) (by decide +kernel), List.mem_of_getElem? (i := 454) (by decide +kernel), List.mem_of_getElem? (i := 455) (by decide +kernel)⟩
theorem lw_p19 : lw_okq (⟨"GasLedger$Accounts", "codeNumber", "(I)I"⟩, 6) := ⟨⟨by decide +kernel, by decide +kernel⟩, List.mem_of_getElem? (i := 26) (by decide +kernel), List.mem_of_getElem? (i := 505) (by decide +kernel), List.mem_of_getElem? (i := 506) (by decide +kernel)⟩
theorem lw_p20 : lw_okq (⟨"GasLedgerModel", "valueOf", "(I)I"⟩, 39) := ⟨⟨by decide +kernel, by decide +kernel⟩, List.mem_of_getElem? (i := 553) (by decide +kernel), List.mem_of_getElem? (i := 698) (by decide +kernel), List.mem_of_getElem? (i := 699) (by decide +kernel)⟩
theorem lw_p21 : lw_okq (⟨"GasLedgerModel", "slotsRoot", "(I)I"⟩, 39) := ⟨⟨by decide +kernel, by decide +kernel⟩, List.mem_of_getElem? (i := 553) (by decide +kernel), List.mem_of_getElem? (i := 706) (by decide +kernel), List.mem_of_getElem? (i := 707) (by decide +kernel)⟩
theorem lw_p22 : lw_okq (⟨"GasLedgerModel", "map", "(I)I"⟩, 39) := ⟨⟨by decide +kernel, by decide +kernel⟩, List.mem_of_getElem? (i := 553) (by decide +kernel), List.mem_of_getElem? (i := 710) (by decide +kernel), List.mem_of_getElem? (i := 711) (by decide +kernel)⟩
theorem lw_p23 : lw_okq (⟨"GasLedgerModel", "part", "(III)I"⟩, 39) := ⟨⟨by decide +kernel, by decide +kernel⟩, List.mem_of_getElem? (i := 553) (by decide +kernel), List.mem_of_getElem? (i := 714) (by decide +kernel), List.mem_of_getElem? (i := 715) (by decide +kernel)⟩
theorem lw_p24 : lw_okq (⟨"GasLedgerModel", "empty", "(I)Z"⟩, 39) := ⟨⟨by decide +kernel, by decide +kernel⟩, List.mem_of_getElem? (i := 553) (by decide +kernel), List.mem_of_getElem? (i := 718) (by decide +kernel), List.mem_of_getElem? (i := 719) (by decide +kernel)⟩
theorem lw_p25 : lw_okq (⟨"GasLedgerModel", "transact", "(IIIIIII)I"⟩, 39) := ⟨⟨by decide +kernel, by decide +kernel⟩, List.mem_of_getElem? (i := 553) (by decide +kernel), List.mem_of_getElem? (i := 730) (by decide +kernel), List.mem_of_getElem? (i := 731) (by decide +kernel)⟩
theorem lw_p26 : lw_okq (⟨"GasLedgerModel", "enter", "(IIIIII)V"⟩, 39) := ⟨⟨by decide +kernel, by decide +kernel⟩, List.mem_of_getElem? (i := 553) (by decide +kernel), List.mem_of_getElem? (i := 734) (by decide +kernel), List.mem_of_getElem? (i := 735) (by decide +kernel)⟩
theorem lw_p27 : lw_okq (⟨"GasLedgerModel", "give", "(III)V"⟩, 39) := ⟨⟨by decide +kernel, by decide +kernel⟩, List.mem_of_getElem? (i := 553) (by decide +kernel), List.mem_of_getElem? (i := 738) (by decide +kernel), List.mem_of_getElem? (i := 739) (by decide +kernel)⟩
theorem lw_p28 : lw_okq (⟨"GasLedgerModel", "step", "()V"⟩, 39) := ⟨⟨by decide +kernel, by decide +kernel⟩, List.mem_of_getElem? (i := 553) (by decide +kernel), List.mem_of_getElem? (i := 743) (by decide +kernel), List.mem_of_getElem? (i := 744) (by decide +kernel)⟩
theorem lw_p29 : lw_okq (⟨"GasLedgerModel", "leave", "(ZII)V"⟩, 39) := ⟨⟨by decide +kernel, by decide +kernel⟩, List.mem_of_getElem? (i := 553) (by decide +kernel), List.mem_of_getElem? (i := 747) (by decide +kernel), List.mem_of_getElem? (i := 748) (by decide +kernel)⟩
theorem lw_p30 : lw_okq (⟨"GasLedgerModel", "push", "(I)V"⟩, 39) := ⟨⟨by decide +kernel, by decide +kernel⟩, List.mem_of_getElem? (i := 553) (by decide +kernel), List.mem_of_getElem? (i := 751) (by decide +kernel), List.mem_of_getElem? (i := 752) (by decide +kernel)⟩
theorem lw_p31 : lw_okq (⟨"GasLedgerModel", "cost", "(I)I"⟩, 39) := ⟨⟨by decide +kernel, by decide +kernel⟩, List.mem_of_getElem? (i := 553) (by decide +kernel), List.mem_of_getElem? (i := 761) (by decide +kernel), List.mem_of_getElem? (i := 762) (by decide +kernel)⟩
def lw_privs_2 : List (MethodName × Nat) := [(⟨"GasLedger$Machine", "resultOf", "(LGasLedger$Frame;II)I"⟩, 6), (⟨"GasLedger$Machine", "leave", "(LGasLedger$Frame;)V"⟩, 6), (⟨"GasLedger$Machine", "undo", "(LGasLedger$Frame;)V"⟩, 6), (⟨"GasLedger$Accounts", "codeNumber", "(I)I"⟩, 6), (⟨"GasLedgerModel", "valueOf", "(I)I"⟩, 39), (⟨"GasLedgerModel", "slotsRoot", "(I)I"⟩, 39), (⟨"GasLedgerModel", "map", "(I)I"⟩, 39), (⟨"GasLedgerModel", "part", "(III)I"⟩, 39), (⟨"GasLedgerModel", "empty", "(I)Z"⟩, 39), (⟨"GasLedgerModel", "transact", "(IIIIIII)I"⟩, 39), (⟨"GasLedgerModel", "enter", "(IIIIII)V"⟩, 39), (⟨"GasLedgerModel", "give", "(III)V"⟩, 39), (⟨"GasLedgerModel", "step", "()V"⟩, 39), (⟨"GasLedgerModel", "leave", "(ZII)V"⟩, 39), (⟨"GasLedgerModel", "push", "(I)V"⟩, 39), (⟨"GasLedgerModel", "cost", "(I)I"⟩, 39)]
theorem lw_r2 : ∀ q ∈ lw_privs_2, lw_okq q := List.forall_mem_cons.mpr ⟨lw_p16, List.forall_mem_cons.mpr ⟨lw_p17, List.forall_mem_cons.mpr ⟨lw_p18, List.forall_mem_cons.mpr ⟨lw_p19, List.forall_mem_cons.mpr ⟨lw_p20, List.forall_mem_cons.mpr ⟨lw_p21, List.forall_mem_cons.mpr ⟨lw_p22, List.forall_mem_cons.mpr ⟨lw_p23, List.forall_mem_cons.mpr ⟨lw_p24, List.forall_mem_cons.mpr ⟨lw_p25, List.forall_mem_cons.mpr ⟨lw_p26, List.forall_mem_cons.mpr ⟨lw_p27, List.forall_mem_cons.mpr ⟨lw_p28, List.forall_mem_cons.mpr ⟨lw_p29, List.forall_mem_cons.mpr ⟨lw_p30, List.forall_mem_cons.mpr ⟨lw_p31, fun _ h => absurd h List.not_mem_nil⟩⟩⟩⟩⟩⟩⟩⟩⟩⟩⟩⟩⟩⟩⟩⟩
theorem lw_p32 : lw_okq (⟨"GasLedgerModel", "peek", "(I)I"⟩, 39) := ⟨⟨by decide +kernel, by decide +kernel⟩, List.mem_of_getElem? (i := 553) (by decide +kernel), List.mem_of_getElem? (i := 765) (by decide +kernel), List.mem_of_getElem? (i := 766) (by decide +kernel)⟩
theorem lw_p33 : lw_okq (⟨"GasLedgerModel", "fails", "(II)Z"⟩, 39) := ⟨⟨by decide +kernel, by decide +kernel⟩, List.mem_of_getElem? (i := 553) (by decide +kernel), List.mem_of_getElem? (i := 769) (by decide +kernel), List.mem_of_getElem? (i := 770) (by decide +kernel)⟩
theorem lw_p34 : lw_okq (⟨"GasLedgerModel", "shuffle", "(II)V"⟩, 39) := ⟨⟨by decide +kernel, by decide +kernel⟩, List.mem_of_getElem? (i := 553) (by decide +kernel), List.mem_of_getElem? (i := 773) (by decide +kernel), List.mem_of_getElem? (i := 774) (by decide +kernel)⟩
theorem lw_p35 : lw_okq (⟨"GasLedgerModel", "pop", "()I"⟩, 39) := ⟨⟨by decide +kernel, by decide +kernel⟩, List.mem_of_getElem? (i := 553) (by decide +kernel), List.mem_of_getElem? (i := 777) (by decide +kernel), List.mem_of_getElem? (i := 778) (by decide +kernel)⟩
theorem lw_p36 : lw_okq (⟨"GasLedgerModel", "reckon", "(I)V"⟩, 39) := ⟨⟨by decide +kernel, by decide +kernel⟩, List.mem_of_getElem? (i := 553) (by decide +kernel), List.mem_of_getElem? (i := 781) (by decide +kernel), List.mem_of_getElem? (i := 782) (by decide +kernel)⟩
theorem lw_p37 : lw_okq (⟨"GasLedgerModel", "hold", "(I)V"⟩, 39) := ⟨⟨by decide +kernel, by decide +kernel⟩, List.mem_of_getElem? (i := 553) (by decide +kernel), List.mem_of_getElem? (i := 785) (by decide +kernel), List.mem_of_getElem? (i := 786) (by decide +kernel)⟩
theorem lw_p38 : lw_okq (⟨"GasLedgerModel", "act", "(I)V"⟩, 39) := ⟨⟨by decide +kernel, by decide +kernel⟩, List.mem_of_getElem? (i := 553) (by decide +kernel), List.mem_of_getElem? (i := 789) (by decide +kernel), List.mem_of_getElem? (i := 790) (by decide +kernel)⟩
theorem lw_p39 : lw_okq (⟨"GasLedgerModel", "call", "(Z)V"⟩, 39) := ⟨⟨by decide +kernel, by decide +kernel⟩, List.mem_of_getElem? (i := 553) (by decide +kernel), List.mem_of_getElem? (i := 793) (by decide +kernel), List.mem_of_getElem? (i := 794) (by decide +kernel)⟩
theorem lw_p40 : lw_okq (⟨"GasLedgerModel", "create", "()V"⟩, 39) := ⟨⟨by decide +kernel, by decide +kernel⟩, List.mem_of_getElem? (i := 553) (by decide +kernel), List.mem_of_getElem? (i := 797) (by decide +kernel), List.mem_of_getElem? (i := 798) (by decide +kernel)⟩
theorem lw_p41 : lw_okq (⟨"GasLedgerModel", "wipe", "(I)V"⟩, 39) := ⟨⟨by decide +kernel, by decide +kernel⟩, List.mem_of_getElem? (i := 553) (by decide +kernel), List.mem_of_getElem? (i := 801) (by decide +kernel), List.mem_of_getElem? (i := 802) (by decide +kernel)⟩
theorem lw_p42 : lw_okq (⟨"GasLedgerModel", "bloom", "()I"⟩, 39) := ⟨⟨by decide +kernel, by decide +kernel⟩, List.mem_of_getElem? (i := 553) (by decide +kernel), List.mem_of_getElem? (i := 834) (by decide +kernel), List.mem_of_getElem? (i := 835) (by decide +kernel)⟩
def lw_privs_3 : List (MethodName × Nat) := [(⟨"GasLedgerModel", "peek", "(I)I"⟩, 39), (⟨"GasLedgerModel", "fails", "(II)Z"⟩, 39), (⟨"GasLedgerModel", "shuffle", "(II)V"⟩, 39), (⟨"GasLedgerModel", "pop", "()I"⟩, 39), (⟨"GasLedgerModel", "reckon", "(I)V"⟩, 39), (⟨"GasLedgerModel", "hold", "(I)V"⟩, 39), (⟨"GasLedgerModel", "act", "(I)V"⟩, 39), (⟨"GasLedgerModel", "call", "(Z)V"⟩, 39), (⟨"GasLedgerModel", "create", "()V"⟩, 39), (⟨"GasLedgerModel", "wipe", "(I)V"⟩, 39), (⟨"GasLedgerModel", "bloom", "()I"⟩, 39)]
theorem lw_r3 : ∀ q ∈ lw_privs_3, lw_okq q := List.forall_mem_cons.mpr ⟨lw_p32, List.forall_mem_cons.mpr ⟨lw_p33, List.forall_mem_cons.mpr ⟨lw_p34, List.forall_mem_cons.mpr ⟨lw_p35, List.forall_mem_cons.mpr ⟨lw_p36, List.forall_mem_cons.mpr ⟨lw_p37, List.forall_mem_cons.mpr ⟨lw_p38, List.forall_mem_cons.mpr ⟨lw_p39, List.forall_mem_cons.mpr ⟨lw_p40, List.forall_mem_cons.mpr ⟨lw_p41, List.forall_mem_cons.mpr ⟨lw_p42, fun _ h => absurd h List.not_mem_nil⟩⟩⟩⟩⟩⟩⟩⟩⟩⟩⟩
def lw_privs : List (MethodName × Nat) := lw_privs_1 ++ (lw_privs_2 ++ (lw_privs_3))
def lw_tbl : List Cond := k2_sels lw_privs ++ tables_1
theorem lw_privs_ok : ∀ q ∈ lw_privs, lw_okq q := by
  show ∀ q ∈ lw_privs_1 ++ (lw_privs_2 ++ (lw_privs_3)), lw_okq q
  exact List.forall_mem_append.mpr ⟨lw_r1, List.forall_mem_append.mpr ⟨lw_r2, lw_r3⟩⟩
end
section
/-! Worlds that lie side by side: cell k at address b + k, and what the cells hold as a memory of ints V k p. -/
def gx_w (b N : Nat) (w : Nat → va_E) : va_W := (List.range N).map fun k => (b + k, w k)
theorem gx_at {b N : Nat} {w : Nat → va_E} {k : Nat} {e : va_E} (hk : k < N) (he : w k = e) : (gx_w b N w)[k]? = some (b + k, e) := by
  subst he
  simp [gx_w, hk]
theorem gx_get {b N : Nat} {w : Nat → va_E} {k : Nat} {q : Nat × va_E} (h : (gx_w b N w)[k]? = some q) : k < N ∧ q = (b + k, w k) := by
  have hk : k < N := by
    have h1 := (List.getElem?_eq_some_iff.mp h).1
    simpa [gx_w] using h1
  exact ⟨hk, Option.some.inj (h.symm.trans (gx_at (b := b) (w := w) hk rfl))⟩
theorem gx_set {b N : Nat} {w : Nat → va_E} {k : Nat} (e : va_E) : (gx_w b N w).set k (b + k, e) = gx_w b N (va_up w k e) := by
  apply List.ext_getElem?
  intro j
  by_cases hj : j < N
  · rw [gx_at (w := va_up w k e) hj rfl, List.getElem?_set]
    by_cases hkj : k = j
    · subst hkj
      simp [gx_w, hj, va_up]
    · rw [if_neg hkj, gx_at (w := w) hj rfl]
      simp [va_up, Ne.symm hkj]
  · have h1 : ((gx_w b N w).set k (b + k, e)).length ≤ j := by simp [gx_w]; omega
    have h2 : (gx_w b N (va_up w k e)).length ≤ j := by simp [gx_w]; omega
    rw [List.getElem?_eq_none h1, List.getElem?_eq_none h2]
def gx_A (b N : Nat) : Nat → Prop := fun q => b ≤ q ∧ q < b + N
theorem gx_D {b N : Nat} {w : Nat → va_E} : va_D (gx_A b N) (gx_w b N w) := by
  constructor
  · intro i j x y hx hy hxy
    obtain ⟨-, rfl⟩ := gx_get hx
    obtain ⟨-, rfl⟩ := gx_get hy
    exact Nat.add_left_cancel hxy
  · intro k x hx
    obtain ⟨hk, rfl⟩ := gx_get hx
    exact ⟨Nat.le_add_right _ _, Nat.add_lt_add_left hk _⟩
/-- a memory of ints: place p of cell k -/
abbrev gx_M : Type := Nat → Nat → Int32
def gx_v (sh : Nat → (Nat → Int32) → va_E) (V : gx_M) : Nat → va_E := fun k => sh k (V k)
def gx_u (V : gx_M) (k p : Nat) (x : Int32) : gx_M := va_up V k (upd (V k) p x)
theorem gx_vset {sh : Nat → (Nat → Int32) → va_E} {V : gx_M} {k : Nat} {f : Nat → Int32} : va_up (gx_v sh V) k (sh k f) = gx_v sh (va_up V k f) := by
  funext j
  unfold va_up gx_v
  by_cases h : j = k
  · subst h; simp
  · simp [h]
theorem gx_us (V : gx_M) (k p : Nat) (x : Int32) : gx_u V k p x k p = x := by simp [gx_u, va_up, upd]
theorem gx_up {V : gx_M} {k p p' : Nat} {x : Int32} (h : p' ≠ p) : gx_u V k p x k p' = V k p' := by simp [gx_u, va_up, upd, h]
theorem gx_uk {V : gx_M} {k k' p p' : Nat} {x : Int32} (h : k' ≠ k) : gx_u V k p x k' p' = V k' p' := by simp [gx_u, va_up, h]
theorem gx_uK {V : gx_M} {k k' p : Nat} {x : Int32} (h : k' ≠ k) : gx_u V k p x k' = V k' := by simp [gx_u, va_up, h]
/-- what a method answers and leaves: r, and the memory V -/
def gx_Q (D : va_G) (cl : List vw_C) (b N : Nat) (sh : Nat → (Nat → Int32) → va_E) (r : Option Value) (V : gx_M) : Array Value → State → Outcome → State → Prop := fun _ st oc t =>
  oc = .returned r ∧ va_P D cl (gx_w b N (gx_v sh V)) t.heap ∧ va_F (gx_A b N) st t
/-- a contract: at arguments av and memory V the method answers r and leaves V'; X: what stands outside (statics) -/
def gx_C (l : Launch) (y : MethodName) (ws : List Cond) (rm : Room) (D : va_G) (cl : List vw_C) (tys : List (ClassId × FieldType)) (b N : Nat) (sh : Nat → (Nat → Int32) → va_E) (X : State → Prop) (av : List Value) (V : gx_M) (r : Option Value) (V' : gx_M) : Prop :=
  Met l y ws rm (va_Pc av (fun U => va_P D cl (gx_w b N (gx_v sh V)) U.heap ∧ va_K D cl tys U ∧ X U)) (gx_Q D cl b N sh r V') 0 0 (gx_A b N)
/-- what stands outside stays, and no frame is seen in it -/
def gx_X (b N : Nat) (X : State → Prop) : Prop := (∀ (s U : State) (H : Heap) (locs : List Loc), X s → va_S (gx_A b N) s.heap H locs → U.heap = H → s.vm.Alike U.vm → X U) ∧ ∀ (a : Array Value) (U : State) (g : JFrame) (mk : MethodId), X U → X (U.calling g mk a)
section GX
variable {p : Program} {l : Launch} {e : Env} {R : Room} {s : State} {m : MethodId} {args : Array Value} {below : List Frame} {meth : Method} {c : Code} {H : Heap} {locs : List Loc} {cells slots : Nat} {Q : State → Prop}
variable {cc : ByteArray} {pc : Nat} {ls : Array Slot} {rest st0 : List Value} {D : va_G} {cl : List vw_C} {tys : List (ClassId × FieldType)} {H0 : Heap} {b N : Nat} {sh : Nat → (Nat → Int32) → va_E} {V V' V2 : gx_M} {X : State → Prop}
theorem gx_start {y : MethodName} {ws ws' : List Cond} {rm : Room} {av : List Value} {r : Option Value} {maxL : Nat} {ret : Option FieldType}
    (hy : plainName y.cls = true) (hw : ws = Cond.code y cc maxL ret :: ws') (hlen : (lg_sl av).length ≤ maxL)
    (body : ∀ (p : Program) (e : Env) (s : State) (m : MethodId) (args : Array Value) (below : List Frame) (meth : Method) (c : Code) (ls : Array Slot), p.tables.exec = Jvm.exec → c.code = cc → meth.sig.returnType = ret → (∀ w ∈ ws, w.before args s = true) → s.vm.findClass y.cls = some m.cls → meth.locks = false → c.maxLocals = maxL → lv_has ls maxL (lv_args 0 av) → va_P D cl (gx_w b N (gx_v sh V)) s.heap → va_K D cl tys s → X s → va_S (gx_A b N) s.heap s.heap [] →
      W p l e (headSpec ws rm).room s m args below meth c s.heap [] 0 0 (MQ below (gx_Q D cl b N sh r V') args s 0 0 (gx_A b N)) (F0 m 0 ls [])) : gx_C l y ws rm D cl tys b N sh X av V r V' := by
  refine Met.ofW (cc := cc) (maxL := maxL) (ret := ret) hy hw ?_
  intro p e s m args below meth c s₁ B hml hv
  obtain ⟨rfl, hP, hK, hX⟩ := hv
  rw [lg_entry_eq]
  exact body p e s m _ below meth c _ B.exec B.bytes B.returns (atoms_spec (ws := ws) B.pre) (findClass_of_methodNamed B.named) B.notSynchronized hml (lv_entry av hlen) hP hK hX va_S.rf
theorem gx_iret {free : Addr → Prop} {v : Int32} {r : Option Value} (hexec : p.tables.exec = Jvm.exec) (hb : c.code = cc) (hr : meth.sig.returnType = some .int) (hlk : meth.locks = false) (hP : va_P D cl (gx_w b N (gx_v sh V)) H) (hS : va_S (gx_A b N) s.heap H locs) (hdg : decode cc pc = .ok (.ireturn, 1)) (hv : some (.int v) = r) (hV : V = V') :
    W p l e R s m args below meth c H locs cells slots (MQ below (gx_Q D cl b N sh r V') args s cells slots (gx_A b N)) (F0 m pc ls [.int v]) := by
  subst hv; subst hV
  exact W.iret hexec hb hr (fun t ht _ => ⟨rfl, by rw [ht]; exact hP, hS.F ht⟩) hS.2.2 hdg
theorem gx_zret {free : Addr → Prop} {v : Int32} {r : Option Value} (hexec : p.tables.exec = Jvm.exec) (hb : c.code = cc) (hr : meth.sig.returnType = some .boolean) (hlk : meth.locks = false) (hP : va_P D cl (gx_w b N (gx_v sh V)) H) (hS : va_S (gx_A b N) s.heap H locs) (hdg : decode cc pc = .ok (.ireturn, 1)) (hn : narrow .boolean (.int v) = .int v) (hv : some (.int v) = r) (hV : V = V') :
    W p l e R s m args below meth c H locs cells slots (MQ below (gx_Q D cl b N sh r V') args s cells slots (gx_A b N)) (F0 m pc ls [.int v]) := by
  subst hv; subst hV
  exact W.zret hexec hb hr hn (fun t ht _ => ⟨rfl, by rw [ht]; exact hP, hS.F ht⟩) hS.2.2 hdg
theorem gx_vret {r : Option Value} (hexec : p.tables.exec = Jvm.exec) (hb : c.code = cc) (hr : meth.sig.returnType = none) (hlk : meth.locks = false) (hP : va_P D cl (gx_w b N (gx_v sh V)) H) (hS : va_S (gx_A b N) s.heap H locs) (hdg : decode cc pc = .ok (.return_, 1)) (hv : none = r) (hV : V = V') :
    W p l e R s m args below meth c H locs cells slots (MQ below (gx_Q D cl b N sh r V') args s cells slots (gx_A b N)) (F0 m pc ls []) := by
  subst hv; subst hV
  exact W.vret hexec hb hr (fun t ht _ => ⟨rfl, by rw [ht]; exact hP, hS.F ht⟩) hS.2.2 hdg
theorem gx_lret {v : Int64} {r : Option Value} (hexec : p.tables.exec = Jvm.exec) (hb : c.code = cc) (hr : meth.sig.returnType = some .long) (hlk : meth.locks = false) (hP : va_P D cl (gx_w b N (gx_v sh V)) H) (hS : va_S (gx_A b N) s.heap H locs) (hdg : decode cc pc = .ok (.lreturn, 1)) (hv : some (.long v) = r) (hV : V = V') :
    W p l e R s m args below meth c H locs cells slots (MQ below (gx_Q D cl b N sh r V') args s cells slots (gx_A b N)) (F0 m pc ls [.long v]) := by
  subst hv; subst hV
  exact W.lret hexec hb hr (fun t ht _ => ⟨rfl, by rw [ht]; exact hP, hS.F ht⟩) hS.2.2 hdg
theorem gx_put (hexec : p.tables.exec = Jvm.exec) (hb : c.code = cc) {own ref C : String} {T : u_T} {NF ci index : Nat} {Ts : List Cond} (hts : ∀ w ∈ Ts, w.before args s = true) (hin : ∀ w ∈ u_ws C T NF, w ∈ Ts) (ty0 : Nat → FieldType) (hty : ∀ k, k < NF → parseFieldDescriptor (T k).2.2.1 = some (ty0 k)) (hnm : ∀ a, a < NF → ∀ b, b < NF → a ≠ b → (T a).2.1 ≠ (T b).2.1) (hown : s.vm.findClass own = some m.cls) (hK : va_K D cl tys s) (hP : va_P D cl (gx_w b N (gx_v sh V)) H) (hS : va_S (gx_A b N) H0 H locs) (k0 : Nat) (hk0 : k0 < N) {fs : List Value} (he : sh k0 (V k0) = .inr (ci, fs)) (hc : cl[ci]? = some (C, T, NF)) (k : Nat) (hk : k < NF) (hlink : (Cond.fieldLink own index ref (T k).2.1 (T k).2.2.1).before args s = true) (hsame : ∀ x, s.fieldFound? (T k).1 (T k).2.1 (T k).2.2.1 = some x → s.fieldFound? ref (T k).2.1 (T k).2.2.1 = some x) (hfin : (T k).2.2.2 = false) {ty : FieldType} {x : Int32} (hd : parseFieldDescriptor (T k).2.2.1 = some ty) (hn : narrow ty (.int x) = .int x) (hfit : fits ty (.int x) = true) (hl : k < fs.length) (q : Nat) (hu : sh k0 (upd (V k0) q x) = .inr (ci, fs.set k (.int x)))
    (hdg : decode cc pc = .ok (.putfield index, 3)) (kk : ∀ (H1 : Heap) (locs1 : List Loc), va_P D cl (gx_w b N (gx_v sh (gx_u V k0 q x))) H1 → va_S (gx_A b N) H0 H1 locs1 → W p l e R s m args below meth c H1 locs1 cells slots Q (F0 m (pc + 3) ls rest)) : W p l e R s m args below meth c H locs cells slots Q (F0 m pc ls (.int x :: .ref (b + k0) :: rest)) := by
  refine va_put hexec hb hts hin ty0 hty hnm hown hK hP gx_D hS k0 (gx_at hk0 he) hc k hk hlink hsame hfin hd hn hfit hl hdg (fun H1 locs1 hP1 _ hS1 => kk H1 locs1 ?_ hS1)
  rw [gx_set, ← hu, gx_vset] at hP1
  exact hP1
theorem gx_ald (hexec : p.tables.exec = Jvm.exec) (hb : c.code = cc) (hK : va_K D cl tys s) (hP : va_P D cl (gx_w b N (gx_v sh V)) H) (k0 t0 : Nat) (hk0 : k0 < N) {cA : ClassId} {n : Nat} (he : ∀ f, sh k0 f = .inl (cA, n, .inl f)) (ht : tys[t0]? = some (cA, .int)) {i : Int32} (j : Nat) (hi : i = nI j) (hj : j < n) (hn : n < 2 ^ 31) (hdg : decode cc pc = .ok (.iaload, 1))
    (kk : W p l e R s m args below meth c H locs cells slots Q (F0 m (pc + 1) ls (.int (V k0 j) :: rest))) : W p l e R s m args below meth c H locs cells slots Q (F0 m pc ls (.int i :: .ref (b + k0) :: rest)) := by
  subst hi
  refine va_iald hexec hb hK hP k0 t0 (gx_at hk0 (he _)) ht (vp_in_nI hj hn) hdg ?_
  rw [nI_clamp (by omega)]
  exact kk
theorem gx_ast (hexec : p.tables.exec = Jvm.exec) (hb : c.code = cc) (hK : va_K D cl tys s) (hP : va_P D cl (gx_w b N (gx_v sh V)) H) (hS : va_S (gx_A b N) H0 H locs) (k0 t0 : Nat) (hk0 : k0 < N) {cA : ClassId} {n : Nat} (he : ∀ f, sh k0 f = .inl (cA, n, .inl f)) (ht : tys[t0]? = some (cA, .int)) {i x : Int32} (j : Nat) (hi : i = nI j) (hj : j < n) (hn : n < 2 ^ 31) (hdg : decode cc pc = .ok (.iastore, 1))
    (kk : ∀ (H1 : Heap) (locs1 : List Loc), va_P D cl (gx_w b N (gx_v sh (gx_u V k0 j x))) H1 → va_S (gx_A b N) H0 H1 locs1 → W p l e R s m args below meth c H1 locs1 cells slots Q (F0 m (pc + 1) ls rest)) : W p l e R s m args below meth c H locs cells slots Q (F0 m pc ls (.int x :: .int i :: .ref (b + k0) :: rest)) := by
  subst hi
  refine va_iast hexec hb hK hP gx_D hS k0 t0 (gx_at hk0 (he _)) ht (vp_in_nI hj hn) hdg (fun H1 locs1 hP1 _ hS1 => kk H1 locs1 ?_ hS1)
  rw [nI_clamp (by omega), gx_set, ← he, gx_vset] at hP1
  exact hP1
theorem gx_call {r : Option Value} {A0 : Nat → Prop} {a : Array Value} (hr : va_Run p l e R s m args below meth c H locs cells slots 0 0 (F0 m pc ls st0) rest (gx_Q D cl b N sh r V' a) (gx_A b N)) (hS : va_S A0 H0 H locs) (hA : ∀ q, gx_A b N q → A0 q)
    (kk : ∀ (H1 : Heap) (locs1 : List Loc), va_P D cl (gx_w b N (gx_v sh V')) H1 → va_S A0 H0 H1 locs1 → H.size ≤ H1.size → (∀ q : Nat, q < H.size → ¬ gx_A b N q → H1[q]? = H[q]?) → W p l e R s m args below meth c H1 locs1 cells slots Q (F0 m (pc + 3) ls (r.toList ++ rest))) : W p l e R s m args below meth c H locs cells slots Q (F0 m pc ls st0) := by
  intro T hT XX
  obtain ⟨v, st₀, t, T', L, h0, X', hL, e1, -, ⟨hv, hp, hz, hk⟩, st⟩ := hr T hT XX
  cases hv
  rw [h0] at hz hk
  rw [← e1] at hp hz hk
  obtain ⟨t2, a1, b1⟩ := kk T'.heap (locs ++ L) hp ⟨Nat.le_trans hS.1 hz, fun q h1 h2 => by rw [hk q (Nat.lt_of_lt_of_le h1 hS.1) (fun z => h2 (hA q z))]; exact hS.2.1 q h1 h2, fun q hq => by
      rcases List.mem_append.mp hq with h | h
      · exact hS.2.2 q h
      · exact hA _ (hL q h)⟩ hz hk T' rfl X'
  exact ⟨t2, st t2 a1, b1⟩
theorem gx_pre {av : List Value} (hX0 : gx_X b N X) (hX : X s) (hK : va_K D cl tys s) (hP : va_P D cl (gx_w b N (gx_v sh V)) H) (hS : va_S (gx_A b N) s.heap H locs) : PreS s H (va_Pc av (fun U => va_P D cl (gx_w b N (gx_v sh V)) U.heap ∧ va_K D cl tys U ∧ X U)) av :=
  ⟨fun a U g mk q => ⟨q.1, q.2.1, va_K.moved (u := U) (U := U.calling g mk a) (Vm.Alike.refl U.vm) q.2.2.1, hX0.2 a U g mk q.2.2.2⟩, fun U hU hW => ⟨rfl, by rw [hU]; exact hP, va_K.moved hW.alike hK, hX0.1 s U H locs hX hS hU hW.alike⟩⟩
theorem gx_preV {k0 ci : Nat} {As fs : List Value} {q : vw_C} (hX0 : gx_X b N X) (hX : X s) (hK : va_K D cl tys s) (hP : va_P D cl (gx_w b N (gx_v sh V)) H) (hS : va_S (gx_A b N) s.heap H locs) (hk0 : k0 < N) (he : sh k0 (V k0) = .inr (ci, fs)) (hc : cl[ci]? = some q) : PreV s H q.1 (b + k0) (va_Pc (.ref (b + k0) :: As) (fun U => va_P D cl (gx_w b N (gx_v sh V)) U.heap ∧ va_K D cl tys U ∧ X U)) As :=
  ⟨(gx_pre hX0 hX hK hP hS).1, va_recv hK hP hc (gx_at hk0 he), (gx_pre hX0 hX hK hP hS).2⟩
end GX
end
section
def cx_tb : List Cond := lw_tbl.filter goodWord
theorem gx_tb {c : Cond} (i : Nat) (h : lw_tbl[i]? = some c) (hg : goodWord c = true) : c ∈ cx_tb := List.mem_filter.mpr ⟨List.mem_of_getElem? h, hg⟩
theorem gx_good {c : Cond} (h : c ∈ cx_tb) : GoodIn cx_tb (c :: cx_tb) := by
  intro w hw
  have h2 : w ∈ cx_tb := by
    rcases List.mem_cons.mp hw with e | e
    · rw [e]; exact h
    · exact e
  exact ⟨h2, good_of_word (List.mem_filter.mp h2).2⟩
def R_Acc : String := "GasLedger$Accounts"
def T_Acc : u_T := fun k => match k with
  | 0 => ("GasLedger$Accounts", "balances", "[I", true)
  | 1 => ("GasLedger$Accounts", "nonces", "[I", true)
  | 2 => ("GasLedger$Accounts", "sizes", "[I", true)
  | 3 => ("GasLedger$Accounts", "words", "[I", true)
  | 4 => ("GasLedger$Accounts", "slots", "[I", true)
  | _ => ("GasLedger$Accounts", "values", "[I", true)
def t_Acc : Nat → FieldType := fun k => match k with
  | 0 => .array .int
  | 1 => .array .int
  | 2 => .array .int
  | 3 => .array .int
  | 4 => .array .int
  | _ => .array .int
theorem nm_Acc : ∀ a, a < 6 → ∀ b, b < 6 → a ≠ b → (T_Acc a).2.1 ≠ (T_Acc b).2.1 := by decide +kernel
theorem ty_Acc : ∀ k, k < 6 → parseFieldDescriptor (T_Acc k).2.2.1 = some (t_Acc k) := by decide +kernel
theorem ly_Acc_0 : u_lay R_Acc T_Acc 0 ∈ cx_tb := gx_tb (c := (Jvm.Cond.laysFinal "GasLedger$Accounts" "GasLedger$Accounts" "balances" "[I")) 88 (by decide +kernel) (by decide +kernel)
theorem ly_Acc_1 : u_lay R_Acc T_Acc 1 ∈ cx_tb := gx_tb (c := (Jvm.Cond.laysFinal "GasLedger$Accounts" "GasLedger$Accounts" "nonces" "[I")) 90 (by decide +kernel) (by decide +kernel)
theorem ly_Acc_2 : u_lay R_Acc T_Acc 2 ∈ cx_tb := gx_tb (c := (Jvm.Cond.laysFinal "GasLedger$Accounts" "GasLedger$Accounts" "sizes" "[I")) 92 (by decide +kernel) (by decide +kernel)
theorem ly_Acc_3 : u_lay R_Acc T_Acc 3 ∈ cx_tb := gx_tb (c := (Jvm.Cond.laysFinal "GasLedger$Accounts" "GasLedger$Accounts" "words" "[I")) 94 (by decide +kernel) (by decide +kernel)
theorem ly_Acc_4 : u_lay R_Acc T_Acc 4 ∈ cx_tb := gx_tb (c := (Jvm.Cond.laysFinal "GasLedger$Accounts" "GasLedger$Accounts" "slots" "[I")) 96 (by decide +kernel) (by decide +kernel)
theorem ly_Acc_5 : u_lay R_Acc T_Acc 5 ∈ cx_tb := gx_tb (c := (Jvm.Cond.laysFinal "GasLedger$Accounts" "GasLedger$Accounts" "values" "[I")) 98 (by decide +kernel) (by decide +kernel)
theorem in_Acc : ∀ w ∈ u_ws R_Acc T_Acc 6, w ∈ cx_tb := by
  intro w hw
  obtain ⟨k, hk, rfl⟩ := List.mem_map.mp hw
  have hk : k < 6 := List.mem_range.mp hk
  match k, hk with
  | 0, _ => exact ly_Acc_0
  | 1, _ => exact ly_Acc_1
  | 2, _ => exact ly_Acc_2
  | 3, _ => exact ly_Acc_3
  | 4, _ => exact ly_Acc_4
  | 5, _ => exact ly_Acc_5
  | k + 6, hk => exact absurd hk (by omega)
def R_Frm : String := "GasLedger$Frame"
def T_Frm : u_T := fun k => match k with
  | 0 => ("GasLedger$Frame", "self", "I", false)
  | 1 => ("GasLedger$Frame", "coder", "I", false)
  | 2 => ("GasLedger$Frame", "place", "I", false)
  | 3 => ("GasLedger$Frame", "caller", "I", false)
  | 4 => ("GasLedger$Frame", "value", "I", false)
  | 5 => ("GasLedger$Frame", "input", "I", false)
  | 6 => ("GasLedger$Frame", "gas", "I", false)
  | 7 => ("GasLedger$Frame", "stack", "[I", true)
  | 8 => ("GasLedger$Frame", "height", "I", false)
  | 9 => ("GasLedger$Frame", "ended", "Z", false)
  | 10 => ("GasLedger$Frame", "endedWell", "Z", false)
  | 11 => ("GasLedger$Frame", "output", "I", false)
  | 12 => ("GasLedger$Frame", "accountsBefore", "LGasLedger$Accounts;", true)
  | 13 => ("GasLedger$Frame", "refundBefore", "I", false)
  | 14 => ("GasLedger$Frame", "goersBefore", "I", false)
  | 15 => ("GasLedger$Frame", "logsBefore", "I", false)
  | _ => ("GasLedger$Frame", "bloomBefore", "I", false)
def t_Frm : Nat → FieldType := fun k => match k with
  | 0 => .int
  | 1 => .int
  | 2 => .int
  | 3 => .int
  | 4 => .int
  | 5 => .int
  | 6 => .int
  | 7 => .array .int
  | 8 => .int
  | 9 => .boolean
  | 10 => .boolean
  | 11 => .int
  | 12 => .object "GasLedger$Accounts"
  | 13 => .int
  | 14 => .int
  | 15 => .int
  | _ => .int
theorem nm_Frm : ∀ a, a < 17 → ∀ b, b < 17 → a ≠ b → (T_Frm a).2.1 ≠ (T_Frm b).2.1 := by decide +kernel
theorem ty_Frm : ∀ k, k < 17 → parseFieldDescriptor (T_Frm k).2.2.1 = some (t_Frm k) := by decide +kernel
theorem ly_Frm_0 : u_lay R_Frm T_Frm 0 ∈ cx_tb := gx_tb (c := (Jvm.Cond.lays "GasLedger$Frame" "GasLedger$Frame" "self" "I")) 166 (by decide +kernel) (by decide +kernel)
theorem ly_Frm_1 : u_lay R_Frm T_Frm 1 ∈ cx_tb := gx_tb (c := (Jvm.Cond.lays "GasLedger$Frame" "GasLedger$Frame" "coder" "I")) 168 (by decide +kernel) (by decide +kernel)
theorem ly_Frm_2 : u_lay R_Frm T_Frm 2 ∈ cx_tb := gx_tb (c := (Jvm.Cond.lays "GasLedger$Frame" "GasLedger$Frame" "place" "I")) 170 (by decide +kernel) (by decide +kernel)
theorem ly_Frm_3 : u_lay R_Frm T_Frm 3 ∈ cx_tb := gx_tb (c := (Jvm.Cond.lays "GasLedger$Frame" "GasLedger$Frame" "caller" "I")) 172 (by decide +kernel) (by decide +kernel)
theorem ly_Frm_4 : u_lay R_Frm T_Frm 4 ∈ cx_tb := gx_tb (c := (Jvm.Cond.lays "GasLedger$Frame" "GasLedger$Frame" "value" "I")) 174 (by decide +kernel) (by decide +kernel)
theorem ly_Frm_5 : u_lay R_Frm T_Frm 5 ∈ cx_tb := gx_tb (c := (Jvm.Cond.lays "GasLedger$Frame" "GasLedger$Frame" "input" "I")) 176 (by decide +kernel) (by decide +kernel)
theorem ly_Frm_6 : u_lay R_Frm T_Frm 6 ∈ cx_tb := gx_tb (c := (Jvm.Cond.lays "GasLedger$Frame" "GasLedger$Frame" "gas" "I")) 178 (by decide +kernel) (by decide +kernel)
theorem ly_Frm_7 : u_lay R_Frm T_Frm 7 ∈ cx_tb := gx_tb (c := (Jvm.Cond.laysFinal "GasLedger$Frame" "GasLedger$Frame" "stack" "[I")) 180 (by decide +kernel) (by decide +kernel)
theorem ly_Frm_8 : u_lay R_Frm T_Frm 8 ∈ cx_tb := gx_tb (c := (Jvm.Cond.lays "GasLedger$Frame" "GasLedger$Frame" "height" "I")) 182 (by decide +kernel) (by decide +kernel)
theorem ly_Frm_9 : u_lay R_Frm T_Frm 9 ∈ cx_tb := gx_tb (c := (Jvm.Cond.lays "GasLedger$Frame" "GasLedger$Frame" "ended" "Z")) 184 (by decide +kernel) (by decide +kernel)
theorem ly_Frm_10 : u_lay R_Frm T_Frm 10 ∈ cx_tb := gx_tb (c := (Jvm.Cond.lays "GasLedger$Frame" "GasLedger$Frame" "endedWell" "Z")) 186 (by decide +kernel) (by decide +kernel)
theorem ly_Frm_11 : u_lay R_Frm T_Frm 11 ∈ cx_tb := gx_tb (c := (Jvm.Cond.lays "GasLedger$Frame" "GasLedger$Frame" "output" "I")) 188 (by decide +kernel) (by decide +kernel)
theorem ly_Frm_12 : u_lay R_Frm T_Frm 12 ∈ cx_tb := gx_tb (c := (Jvm.Cond.laysFinal "GasLedger$Frame" "GasLedger$Frame" "accountsBefore" "LGasLedger$Accounts;")) 190 (by decide +kernel) (by decide +kernel)
theorem ly_Frm_13 : u_lay R_Frm T_Frm 13 ∈ cx_tb := gx_tb (c := (Jvm.Cond.lays "GasLedger$Frame" "GasLedger$Frame" "refundBefore" "I")) 192 (by decide +kernel) (by decide +kernel)
theorem ly_Frm_14 : u_lay R_Frm T_Frm 14 ∈ cx_tb := gx_tb (c := (Jvm.Cond.lays "GasLedger$Frame" "GasLedger$Frame" "goersBefore" "I")) 194 (by decide +kernel) (by decide +kernel)
theorem ly_Frm_15 : u_lay R_Frm T_Frm 15 ∈ cx_tb := gx_tb (c := (Jvm.Cond.lays "GasLedger$Frame" "GasLedger$Frame" "logsBefore" "I")) 196 (by decide +kernel) (by decide +kernel)
theorem ly_Frm_16 : u_lay R_Frm T_Frm 16 ∈ cx_tb := gx_tb (c := (Jvm.Cond.lays "GasLedger$Frame" "GasLedger$Frame" "bloomBefore" "I")) 198 (by decide +kernel) (by decide +kernel)
theorem in_Frm : ∀ w ∈ u_ws R_Frm T_Frm 17, w ∈ cx_tb := by
  intro w hw
  obtain ⟨k, hk, rfl⟩ := List.mem_map.mp hw
  have hk : k < 17 := List.mem_range.mp hk
  match k, hk with
  | 0, _ => exact ly_Frm_0
  | 1, _ => exact ly_Frm_1
  | 2, _ => exact ly_Frm_2
  | 3, _ => exact ly_Frm_3
  | 4, _ => exact ly_Frm_4
  | 5, _ => exact ly_Frm_5
  | 6, _ => exact ly_Frm_6
  | 7, _ => exact ly_Frm_7
  | 8, _ => exact ly_Frm_8
  | 9, _ => exact ly_Frm_9
  | 10, _ => exact ly_Frm_10
  | 11, _ => exact ly_Frm_11
  | 12, _ => exact ly_Frm_12
  | 13, _ => exact ly_Frm_13
  | 14, _ => exact ly_Frm_14
  | 15, _ => exact ly_Frm_15
  | 16, _ => exact ly_Frm_16
  | k + 17, hk => exact absurd hk (by omega)
def R_Log : String := "GasLedger$Logs"
def T_Log : u_T := fun k => match k with
  | 0 => ("GasLedger$Logs", "accounts", "[I", true)
  | 1 => ("GasLedger$Logs", "numbers", "[I", true)
  | 2 => ("GasLedger$Logs", "count", "I", false)
  | _ => ("GasLedger$Logs", "bloom", "I", false)
def t_Log : Nat → FieldType := fun k => match k with
  | 0 => .array .int
  | 1 => .array .int
  | 2 => .int
  | _ => .int
theorem nm_Log : ∀ a, a < 4 → ∀ b, b < 4 → a ≠ b → (T_Log a).2.1 ≠ (T_Log b).2.1 := by decide +kernel
theorem ty_Log : ∀ k, k < 4 → parseFieldDescriptor (T_Log k).2.2.1 = some (t_Log k) := by decide +kernel
theorem ly_Log_0 : u_lay R_Log T_Log 0 ∈ cx_tb := gx_tb (c := (Jvm.Cond.laysFinal "GasLedger$Logs" "GasLedger$Logs" "accounts" "[I")) 116 (by decide +kernel) (by decide +kernel)
theorem ly_Log_1 : u_lay R_Log T_Log 1 ∈ cx_tb := gx_tb (c := (Jvm.Cond.laysFinal "GasLedger$Logs" "GasLedger$Logs" "numbers" "[I")) 118 (by decide +kernel) (by decide +kernel)
theorem ly_Log_2 : u_lay R_Log T_Log 2 ∈ cx_tb := gx_tb (c := (Jvm.Cond.lays "GasLedger$Logs" "GasLedger$Logs" "count" "I")) 120 (by decide +kernel) (by decide +kernel)
theorem ly_Log_3 : u_lay R_Log T_Log 3 ∈ cx_tb := gx_tb (c := (Jvm.Cond.lays "GasLedger$Logs" "GasLedger$Logs" "bloom" "I")) 122 (by decide +kernel) (by decide +kernel)
theorem in_Log : ∀ w ∈ u_ws R_Log T_Log 4, w ∈ cx_tb := by
  intro w hw
  obtain ⟨k, hk, rfl⟩ := List.mem_map.mp hw
  have hk : k < 4 := List.mem_range.mp hk
  match k, hk with
  | 0, _ => exact ly_Log_0
  | 1, _ => exact ly_Log_1
  | 2, _ => exact ly_Log_2
  | 3, _ => exact ly_Log_3
  | k + 4, hk => exact absurd hk (by omega)
def R_Mac : String := "GasLedger$Machine"
def T_Mac : u_T := fun k => match k with
  | 0 => ("GasLedger$Machine", "accounts", "LGasLedger$Accounts;", true)
  | 1 => ("GasLedger$Machine", "logs", "LGasLedger$Logs;", true)
  | 2 => ("GasLedger$Machine", "frames", "[LGasLedger$Frame;", true)
  | 3 => ("GasLedger$Machine", "depth", "I", false)
  | 4 => ("GasLedger$Machine", "refund", "I", false)
  | _ => ("GasLedger$Machine", "goers", "I", false)
def t_Mac : Nat → FieldType := fun k => match k with
  | 0 => .object "GasLedger$Accounts"
  | 1 => .object "GasLedger$Logs"
  | 2 => .array (.object "GasLedger$Frame")
  | 3 => .int
  | 4 => .int
  | _ => .int
theorem nm_Mac : ∀ a, a < 6 → ∀ b, b < 6 → a ≠ b → (T_Mac a).2.1 ≠ (T_Mac b).2.1 := by decide +kernel
theorem ty_Mac : ∀ k, k < 6 → parseFieldDescriptor (T_Mac k).2.2.1 = some (t_Mac k) := by decide +kernel
theorem ly_Mac_0 : u_lay R_Mac T_Mac 0 ∈ cx_tb := gx_tb (c := (Jvm.Cond.laysFinal "GasLedger$Machine" "GasLedger$Machine" "accounts" "LGasLedger$Accounts;")) 210 (by decide +kernel) (by decide +kernel)
theorem ly_Mac_1 : u_lay R_Mac T_Mac 1 ∈ cx_tb := gx_tb (c := (Jvm.Cond.laysFinal "GasLedger$Machine" "GasLedger$Machine" "logs" "LGasLedger$Logs;")) 212 (by decide +kernel) (by decide +kernel)
theorem ly_Mac_2 : u_lay R_Mac T_Mac 2 ∈ cx_tb := gx_tb (c := (Jvm.Cond.laysFinal "GasLedger$Machine" "GasLedger$Machine" "frames" "[LGasLedger$Frame;")) 214 (by decide +kernel) (by decide +kernel)
theorem ly_Mac_3 : u_lay R_Mac T_Mac 3 ∈ cx_tb := gx_tb (c := (Jvm.Cond.lays "GasLedger$Machine" "GasLedger$Machine" "depth" "I")) 216 (by decide +kernel) (by decide +kernel)
theorem ly_Mac_4 : u_lay R_Mac T_Mac 4 ∈ cx_tb := gx_tb (c := (Jvm.Cond.lays "GasLedger$Machine" "GasLedger$Machine" "refund" "I")) 218 (by decide +kernel) (by decide +kernel)
theorem ly_Mac_5 : u_lay R_Mac T_Mac 5 ∈ cx_tb := gx_tb (c := (Jvm.Cond.lays "GasLedger$Machine" "GasLedger$Machine" "goers" "I")) 220 (by decide +kernel) (by decide +kernel)
theorem in_Mac : ∀ w ∈ u_ws R_Mac T_Mac 6, w ∈ cx_tb := by
  intro w hw
  obtain ⟨k, hk, rfl⟩ := List.mem_map.mp hw
  have hk : k < 6 := List.mem_range.mp hk
  match k, hk with
  | 0, _ => exact ly_Mac_0
  | 1, _ => exact ly_Mac_1
  | 2, _ => exact ly_Mac_2
  | 3, _ => exact ly_Mac_3
  | 4, _ => exact ly_Mac_4
  | 5, _ => exact ly_Mac_5
  | k + 6, hk => exact absurd hk (by omega)
def R_Rec : String := "GasLedger$Receipts"
def T_Rec : u_T := fun k => match k with
  | 0 => ("GasLedger$Receipts", "statuses", "[I", true)
  | 1 => ("GasLedger$Receipts", "usedGas", "[I", true)
  | 2 => ("GasLedger$Receipts", "outputs", "[I", true)
  | 3 => ("GasLedger$Receipts", "logCounts", "[I", true)
  | _ => ("GasLedger$Receipts", "count", "I", false)
def t_Rec : Nat → FieldType := fun k => match k with
  | 0 => .array .int
  | 1 => .array .int
  | 2 => .array .int
  | 3 => .array .int
  | _ => .int
theorem nm_Rec : ∀ a, a < 5 → ∀ b, b < 5 → a ≠ b → (T_Rec a).2.1 ≠ (T_Rec b).2.1 := by decide +kernel
theorem ty_Rec : ∀ k, k < 5 → parseFieldDescriptor (T_Rec k).2.2.1 = some (t_Rec k) := by decide +kernel
theorem ly_Rec_0 : u_lay R_Rec T_Rec 0 ∈ cx_tb := gx_tb (c := (Jvm.Cond.laysFinal "GasLedger$Receipts" "GasLedger$Receipts" "statuses" "[I")) 237 (by decide +kernel) (by decide +kernel)
theorem ly_Rec_1 : u_lay R_Rec T_Rec 1 ∈ cx_tb := gx_tb (c := (Jvm.Cond.laysFinal "GasLedger$Receipts" "GasLedger$Receipts" "usedGas" "[I")) 239 (by decide +kernel) (by decide +kernel)
theorem ly_Rec_2 : u_lay R_Rec T_Rec 2 ∈ cx_tb := gx_tb (c := (Jvm.Cond.laysFinal "GasLedger$Receipts" "GasLedger$Receipts" "outputs" "[I")) 241 (by decide +kernel) (by decide +kernel)
theorem ly_Rec_3 : u_lay R_Rec T_Rec 3 ∈ cx_tb := gx_tb (c := (Jvm.Cond.laysFinal "GasLedger$Receipts" "GasLedger$Receipts" "logCounts" "[I")) 243 (by decide +kernel) (by decide +kernel)
theorem ly_Rec_4 : u_lay R_Rec T_Rec 4 ∈ cx_tb := gx_tb (c := (Jvm.Cond.lays "GasLedger$Receipts" "GasLedger$Receipts" "count" "I")) 245 (by decide +kernel) (by decide +kernel)
theorem in_Rec : ∀ w ∈ u_ws R_Rec T_Rec 5, w ∈ cx_tb := by
  intro w hw
  obtain ⟨k, hk, rfl⟩ := List.mem_map.mp hw
  have hk : k < 5 := List.mem_range.mp hk
  match k, hk with
  | 0, _ => exact ly_Rec_0
  | 1, _ => exact ly_Rec_1
  | 2, _ => exact ly_Rec_2
  | 3, _ => exact ly_Rec_3
  | 4, _ => exact ly_Rec_4
  | k + 5, hk => exact absurd hk (by omega)
def R_Led : String := "GasLedger"
def T_Led : u_T := fun k => match k with
  | 0 => ("GasLedger", "machine", "LGasLedger$Machine;", true)
  | 1 => ("GasLedger", "atBegin", "LGasLedger$Accounts;", true)
  | 2 => ("GasLedger", "receipts", "LGasLedger$Receipts;", true)
  | 3 => ("GasLedger", "termsLimit", "I", false)
  | 4 => ("GasLedger", "termsPrice", "I", false)
  | 5 => ("GasLedger", "termsOff", "I", false)
  | 6 => ("GasLedger", "underWay", "Z", false)
  | 7 => ("GasLedger", "time", "I", false)
  | 8 => ("GasLedger", "miner", "I", false)
  | 9 => ("GasLedger", "usedGas", "I", false)
  | 10 => ("GasLedger", "begun", "I", false)
  | 11 => ("GasLedger", "accepted", "I", false)
  | 12 => ("GasLedger", "rejected", "I", false)
  | _ => ("GasLedger", "latestTime", "I", false)
def t_Led : Nat → FieldType := fun k => match k with
  | 0 => .object "GasLedger$Machine"
  | 1 => .object "GasLedger$Accounts"
  | 2 => .object "GasLedger$Receipts"
  | 3 => .int
  | 4 => .int
  | 5 => .int
  | 6 => .boolean
  | 7 => .int
  | 8 => .int
  | 9 => .int
  | 10 => .int
  | 11 => .int
  | 12 => .int
  | _ => .int
theorem nm_Led : ∀ a, a < 14 → ∀ b, b < 14 → a ≠ b → (T_Led a).2.1 ≠ (T_Led b).2.1 := by decide +kernel
theorem ty_Led : ∀ k, k < 14 → parseFieldDescriptor (T_Led k).2.2.1 = some (t_Led k) := by decide +kernel
theorem ly_Led_0 : u_lay R_Led T_Led 0 ∈ cx_tb := gx_tb (c := (Jvm.Cond.laysFinal "GasLedger" "GasLedger" "machine" "LGasLedger$Machine;")) 262 (by decide +kernel) (by decide +kernel)
theorem ly_Led_1 : u_lay R_Led T_Led 1 ∈ cx_tb := gx_tb (c := (Jvm.Cond.laysFinal "GasLedger" "GasLedger" "atBegin" "LGasLedger$Accounts;")) 264 (by decide +kernel) (by decide +kernel)
theorem ly_Led_2 : u_lay R_Led T_Led 2 ∈ cx_tb := gx_tb (c := (Jvm.Cond.laysFinal "GasLedger" "GasLedger" "receipts" "LGasLedger$Receipts;")) 266 (by decide +kernel) (by decide +kernel)
theorem ly_Led_3 : u_lay R_Led T_Led 3 ∈ cx_tb := gx_tb (c := (Jvm.Cond.lays "GasLedger" "GasLedger" "termsLimit" "I")) 268 (by decide +kernel) (by decide +kernel)
theorem ly_Led_4 : u_lay R_Led T_Led 4 ∈ cx_tb := gx_tb (c := (Jvm.Cond.lays "GasLedger" "GasLedger" "termsPrice" "I")) 270 (by decide +kernel) (by decide +kernel)
theorem ly_Led_5 : u_lay R_Led T_Led 5 ∈ cx_tb := gx_tb (c := (Jvm.Cond.lays "GasLedger" "GasLedger" "termsOff" "I")) 272 (by decide +kernel) (by decide +kernel)
theorem ly_Led_6 : u_lay R_Led T_Led 6 ∈ cx_tb := gx_tb (c := (Jvm.Cond.lays "GasLedger" "GasLedger" "underWay" "Z")) 274 (by decide +kernel) (by decide +kernel)
theorem ly_Led_7 : u_lay R_Led T_Led 7 ∈ cx_tb := gx_tb (c := (Jvm.Cond.lays "GasLedger" "GasLedger" "time" "I")) 276 (by decide +kernel) (by decide +kernel)
theorem ly_Led_8 : u_lay R_Led T_Led 8 ∈ cx_tb := gx_tb (c := (Jvm.Cond.lays "GasLedger" "GasLedger" "miner" "I")) 278 (by decide +kernel) (by decide +kernel)
theorem ly_Led_9 : u_lay R_Led T_Led 9 ∈ cx_tb := gx_tb (c := (Jvm.Cond.lays "GasLedger" "GasLedger" "usedGas" "I")) 280 (by decide +kernel) (by decide +kernel)
theorem ly_Led_10 : u_lay R_Led T_Led 10 ∈ cx_tb := gx_tb (c := (Jvm.Cond.lays "GasLedger" "GasLedger" "begun" "I")) 282 (by decide +kernel) (by decide +kernel)
theorem ly_Led_11 : u_lay R_Led T_Led 11 ∈ cx_tb := gx_tb (c := (Jvm.Cond.lays "GasLedger" "GasLedger" "accepted" "I")) 284 (by decide +kernel) (by decide +kernel)
theorem ly_Led_12 : u_lay R_Led T_Led 12 ∈ cx_tb := gx_tb (c := (Jvm.Cond.lays "GasLedger" "GasLedger" "rejected" "I")) 286 (by decide +kernel) (by decide +kernel)
theorem ly_Led_13 : u_lay R_Led T_Led 13 ∈ cx_tb := gx_tb (c := (Jvm.Cond.lays "GasLedger" "GasLedger" "latestTime" "I")) 288 (by decide +kernel) (by decide +kernel)
theorem in_Led : ∀ w ∈ u_ws R_Led T_Led 14, w ∈ cx_tb := by
  intro w hw
  obtain ⟨k, hk, rfl⟩ := List.mem_map.mp hw
  have hk : k < 14 := List.mem_range.mp hk
  match k, hk with
  | 0, _ => exact ly_Led_0
  | 1, _ => exact ly_Led_1
  | 2, _ => exact ly_Led_2
  | 3, _ => exact ly_Led_3
  | 4, _ => exact ly_Led_4
  | 5, _ => exact ly_Led_5
  | 6, _ => exact ly_Led_6
  | 7, _ => exact ly_Led_7
  | 8, _ => exact ly_Led_8
  | 9, _ => exact ly_Led_9
  | 10, _ => exact ly_Led_10
  | 11, _ => exact ly_Led_11
  | 12, _ => exact ly_Led_12
  | 13, _ => exact ly_Led_13
  | k + 14, hk => exact absurd hk (by omega)
def R_Mod : String := "GasLedgerModel"
def T_Mod : u_T := fun k => match k with
  | 0 => ("GasLedgerModel", "now", "[I", true)
  | 1 => ("GasLedgerModel", "before", "[I", true)
  | 2 => ("GasLedgerModel", "refund", "I", false)
  | 3 => ("GasLedgerModel", "begun", "I", false)
  | 4 => ("GasLedgerModel", "open", "Z", false)
  | 5 => ("GasLedgerModel", "miner", "I", false)
  | 6 => ("GasLedgerModel", "time", "I", false)
  | 7 => ("GasLedgerModel", "latest", "I", false)
  | 8 => ("GasLedgerModel", "accepted", "I", false)
  | 9 => ("GasLedgerModel", "rejected", "I", false)
  | 10 => ("GasLedgerModel", "used", "I", false)
  | 11 => ("GasLedgerModel", "receipts", "I", false)
  | 12 => ("GasLedgerModel", "receipt", "[I", true)
  | 13 => ("GasLedgerModel", "logs", "I", false)
  | 14 => ("GasLedgerModel", "logAccount", "[I", true)
  | 15 => ("GasLedgerModel", "logNumber", "[I", true)
  | 16 => ("GasLedgerModel", "limit", "I", false)
  | 17 => ("GasLedgerModel", "price", "I", false)
  | 18 => ("GasLedgerModel", "off", "I", false)
  | 19 => ("GasLedgerModel", "top", "I", false)
  | 20 => ("GasLedgerModel", "self", "[I", true)
  | 21 => ("GasLedgerModel", "runs", "[I", true)
  | 22 => ("GasLedgerModel", "place", "[I", true)
  | 23 => ("GasLedgerModel", "caller", "[I", true)
  | 24 => ("GasLedgerModel", "value", "[I", true)
  | 25 => ("GasLedgerModel", "input", "[I", true)
  | 26 => ("GasLedgerModel", "gas", "[I", true)
  | 27 => ("GasLedgerModel", "size", "[I", true)
  | 28 => ("GasLedgerModel", "stack", "[I", true)
  | 29 => ("GasLedgerModel", "copies", "[I", true)
  | 30 => ("GasLedgerModel", "refunds", "[I", true)
  | 31 => ("GasLedgerModel", "logsThen", "[I", true)
  | 32 => ("GasLedgerModel", "left", "I", false)
  | 33 => ("GasLedgerModel", "status", "I", false)
  | 34 => ("GasLedgerModel", "output", "I", false)
  | 35 => ("GasLedgerModel", "node", "[I", true)
  | 36 => ("GasLedgerModel", "has", "[Z", true)
  | 37 => ("GasLedgerModel", "worth", "[I", true)
  | _ => ("GasLedgerModel", "values", "[I", true)
def t_Mod : Nat → FieldType := fun k => match k with
  | 0 => .array .int
  | 1 => .array .int
  | 2 => .int
  | 3 => .int
  | 4 => .boolean
  | 5 => .int
  | 6 => .int
  | 7 => .int
  | 8 => .int
  | 9 => .int
  | 10 => .int
  | 11 => .int
  | 12 => .array .int
  | 13 => .int
  | 14 => .array .int
  | 15 => .array .int
  | 16 => .int
  | 17 => .int
  | 18 => .int
  | 19 => .int
  | 20 => .array .int
  | 21 => .array .int
  | 22 => .array .int
  | 23 => .array .int
  | 24 => .array .int
  | 25 => .array .int
  | 26 => .array .int
  | 27 => .array .int
  | 28 => .array .int
  | 29 => .array .int
  | 30 => .array .int
  | 31 => .array .int
  | 32 => .int
  | 33 => .int
  | 34 => .int
  | 35 => .array .int
  | 36 => .array .boolean
  | 37 => .array .int
  | _ => .array .int
theorem nm_Mod : ∀ a, a < 39 → ∀ b, b < 39 → a ≠ b → (T_Mod a).2.1 ≠ (T_Mod b).2.1 := by decide +kernel
theorem ty_Mod : ∀ k, k < 39 → parseFieldDescriptor (T_Mod k).2.2.1 = some (t_Mod k) := by decide +kernel
theorem ly_Mod_0 : u_lay R_Mod T_Mod 0 ∈ cx_tb := gx_tb (c := (Jvm.Cond.laysFinal "GasLedgerModel" "GasLedgerModel" "now" "[I")) 640 (by decide +kernel) (by decide +kernel)
theorem ly_Mod_1 : u_lay R_Mod T_Mod 1 ∈ cx_tb := gx_tb (c := (Jvm.Cond.laysFinal "GasLedgerModel" "GasLedgerModel" "before" "[I")) 642 (by decide +kernel) (by decide +kernel)
theorem ly_Mod_2 : u_lay R_Mod T_Mod 2 ∈ cx_tb := gx_tb (c := (Jvm.Cond.lays "GasLedgerModel" "GasLedgerModel" "refund" "I")) 644 (by decide +kernel) (by decide +kernel)
theorem ly_Mod_3 : u_lay R_Mod T_Mod 3 ∈ cx_tb := gx_tb (c := (Jvm.Cond.lays "GasLedgerModel" "GasLedgerModel" "begun" "I")) 646 (by decide +kernel) (by decide +kernel)
theorem ly_Mod_4 : u_lay R_Mod T_Mod 4 ∈ cx_tb := gx_tb (c := (Jvm.Cond.lays "GasLedgerModel" "GasLedgerModel" "open" "Z")) 648 (by decide +kernel) (by decide +kernel)
theorem ly_Mod_5 : u_lay R_Mod T_Mod 5 ∈ cx_tb := gx_tb (c := (Jvm.Cond.lays "GasLedgerModel" "GasLedgerModel" "miner" "I")) 650 (by decide +kernel) (by decide +kernel)
theorem ly_Mod_6 : u_lay R_Mod T_Mod 6 ∈ cx_tb := gx_tb (c := (Jvm.Cond.lays "GasLedgerModel" "GasLedgerModel" "time" "I")) 652 (by decide +kernel) (by decide +kernel)
theorem ly_Mod_7 : u_lay R_Mod T_Mod 7 ∈ cx_tb := gx_tb (c := (Jvm.Cond.lays "GasLedgerModel" "GasLedgerModel" "latest" "I")) 654 (by decide +kernel) (by decide +kernel)
theorem ly_Mod_8 : u_lay R_Mod T_Mod 8 ∈ cx_tb := gx_tb (c := (Jvm.Cond.lays "GasLedgerModel" "GasLedgerModel" "accepted" "I")) 656 (by decide +kernel) (by decide +kernel)
theorem ly_Mod_9 : u_lay R_Mod T_Mod 9 ∈ cx_tb := gx_tb (c := (Jvm.Cond.lays "GasLedgerModel" "GasLedgerModel" "rejected" "I")) 658 (by decide +kernel) (by decide +kernel)
theorem ly_Mod_10 : u_lay R_Mod T_Mod 10 ∈ cx_tb := gx_tb (c := (Jvm.Cond.lays "GasLedgerModel" "GasLedgerModel" "used" "I")) 660 (by decide +kernel) (by decide +kernel)
theorem ly_Mod_11 : u_lay R_Mod T_Mod 11 ∈ cx_tb := gx_tb (c := (Jvm.Cond.lays "GasLedgerModel" "GasLedgerModel" "receipts" "I")) 662 (by decide +kernel) (by decide +kernel)
theorem ly_Mod_12 : u_lay R_Mod T_Mod 12 ∈ cx_tb := gx_tb (c := (Jvm.Cond.laysFinal "GasLedgerModel" "GasLedgerModel" "receipt" "[I")) 664 (by decide +kernel) (by decide +kernel)
theorem ly_Mod_13 : u_lay R_Mod T_Mod 13 ∈ cx_tb := gx_tb (c := (Jvm.Cond.lays "GasLedgerModel" "GasLedgerModel" "logs" "I")) 666 (by decide +kernel) (by decide +kernel)
theorem ly_Mod_14 : u_lay R_Mod T_Mod 14 ∈ cx_tb := gx_tb (c := (Jvm.Cond.laysFinal "GasLedgerModel" "GasLedgerModel" "logAccount" "[I")) 668 (by decide +kernel) (by decide +kernel)
theorem ly_Mod_15 : u_lay R_Mod T_Mod 15 ∈ cx_tb := gx_tb (c := (Jvm.Cond.laysFinal "GasLedgerModel" "GasLedgerModel" "logNumber" "[I")) 670 (by decide +kernel) (by decide +kernel)
theorem ly_Mod_16 : u_lay R_Mod T_Mod 16 ∈ cx_tb := gx_tb (c := (Jvm.Cond.lays "GasLedgerModel" "GasLedgerModel" "limit" "I")) 672 (by decide +kernel) (by decide +kernel)
theorem ly_Mod_17 : u_lay R_Mod T_Mod 17 ∈ cx_tb := gx_tb (c := (Jvm.Cond.lays "GasLedgerModel" "GasLedgerModel" "price" "I")) 674 (by decide +kernel) (by decide +kernel)
theorem ly_Mod_18 : u_lay R_Mod T_Mod 18 ∈ cx_tb := gx_tb (c := (Jvm.Cond.lays "GasLedgerModel" "GasLedgerModel" "off" "I")) 676 (by decide +kernel) (by decide +kernel)
theorem ly_Mod_19 : u_lay R_Mod T_Mod 19 ∈ cx_tb := gx_tb (c := (Jvm.Cond.lays "GasLedgerModel" "GasLedgerModel" "top" "I")) 678 (by decide +kernel) (by decide +kernel)
theorem ly_Mod_20 : u_lay R_Mod T_Mod 20 ∈ cx_tb := gx_tb (c := (Jvm.Cond.laysFinal "GasLedgerModel" "GasLedgerModel" "self" "[I")) 680 (by decide +kernel) (by decide +kernel)
theorem ly_Mod_21 : u_lay R_Mod T_Mod 21 ∈ cx_tb := gx_tb (c := (Jvm.Cond.laysFinal "GasLedgerModel" "GasLedgerModel" "runs" "[I")) 682 (by decide +kernel) (by decide +kernel)
theorem ly_Mod_22 : u_lay R_Mod T_Mod 22 ∈ cx_tb := gx_tb (c := (Jvm.Cond.laysFinal "GasLedgerModel" "GasLedgerModel" "place" "[I")) 684 (by decide +kernel) (by decide +kernel)
theorem ly_Mod_23 : u_lay R_Mod T_Mod 23 ∈ cx_tb := gx_tb (c := (Jvm.Cond.laysFinal "GasLedgerModel" "GasLedgerModel" "caller" "[I")) 686 (by decide +kernel) (by decide +kernel)
theorem ly_Mod_24 : u_lay R_Mod T_Mod 24 ∈ cx_tb := gx_tb (c := (Jvm.Cond.laysFinal "GasLedgerModel" "GasLedgerModel" "value" "[I")) 688 (by decide +kernel) (by decide +kernel)
theorem ly_Mod_25 : u_lay R_Mod T_Mod 25 ∈ cx_tb := gx_tb (c := (Jvm.Cond.laysFinal "GasLedgerModel" "GasLedgerModel" "input" "[I")) 690 (by decide +kernel) (by decide +kernel)
theorem ly_Mod_26 : u_lay R_Mod T_Mod 26 ∈ cx_tb := gx_tb (c := (Jvm.Cond.laysFinal "GasLedgerModel" "GasLedgerModel" "gas" "[I")) 692 (by decide +kernel) (by decide +kernel)
theorem ly_Mod_27 : u_lay R_Mod T_Mod 27 ∈ cx_tb := gx_tb (c := (Jvm.Cond.laysFinal "GasLedgerModel" "GasLedgerModel" "size" "[I")) 694 (by decide +kernel) (by decide +kernel)
theorem ly_Mod_28 : u_lay R_Mod T_Mod 28 ∈ cx_tb := gx_tb (c := (Jvm.Cond.laysFinal "GasLedgerModel" "GasLedgerModel" "stack" "[I")) 696 (by decide +kernel) (by decide +kernel)
theorem ly_Mod_29 : u_lay R_Mod T_Mod 29 ∈ cx_tb := gx_tb (c := (Jvm.Cond.laysFinal "GasLedgerModel" "GasLedgerModel" "copies" "[I")) 698 (by decide +kernel) (by decide +kernel)
theorem ly_Mod_30 : u_lay R_Mod T_Mod 30 ∈ cx_tb := gx_tb (c := (Jvm.Cond.laysFinal "GasLedgerModel" "GasLedgerModel" "refunds" "[I")) 700 (by decide +kernel) (by decide +kernel)
theorem ly_Mod_31 : u_lay R_Mod T_Mod 31 ∈ cx_tb := gx_tb (c := (Jvm.Cond.laysFinal "GasLedgerModel" "GasLedgerModel" "logsThen" "[I")) 702 (by decide +kernel) (by decide +kernel)
theorem ly_Mod_32 : u_lay R_Mod T_Mod 32 ∈ cx_tb := gx_tb (c := (Jvm.Cond.lays "GasLedgerModel" "GasLedgerModel" "left" "I")) 704 (by decide +kernel) (by decide +kernel)
theorem ly_Mod_33 : u_lay R_Mod T_Mod 33 ∈ cx_tb := gx_tb (c := (Jvm.Cond.lays "GasLedgerModel" "GasLedgerModel" "status" "I")) 706 (by decide +kernel) (by decide +kernel)
theorem ly_Mod_34 : u_lay R_Mod T_Mod 34 ∈ cx_tb := gx_tb (c := (Jvm.Cond.lays "GasLedgerModel" "GasLedgerModel" "output" "I")) 708 (by decide +kernel) (by decide +kernel)
theorem ly_Mod_35 : u_lay R_Mod T_Mod 35 ∈ cx_tb := gx_tb (c := (Jvm.Cond.laysFinal "GasLedgerModel" "GasLedgerModel" "node" "[I")) 710 (by decide +kernel) (by decide +kernel)
theorem ly_Mod_36 : u_lay R_Mod T_Mod 36 ∈ cx_tb := gx_tb (c := (Jvm.Cond.laysFinal "GasLedgerModel" "GasLedgerModel" "has" "[Z")) 712 (by decide +kernel) (by decide +kernel)
theorem ly_Mod_37 : u_lay R_Mod T_Mod 37 ∈ cx_tb := gx_tb (c := (Jvm.Cond.laysFinal "GasLedgerModel" "GasLedgerModel" "worth" "[I")) 714 (by decide +kernel) (by decide +kernel)
theorem ly_Mod_38 : u_lay R_Mod T_Mod 38 ∈ cx_tb := gx_tb (c := (Jvm.Cond.laysFinal "GasLedgerModel" "GasLedgerModel" "values" "[I")) 716 (by decide +kernel) (by decide +kernel)
theorem in_Mod : ∀ w ∈ u_ws R_Mod T_Mod 39, w ∈ cx_tb := by
  intro w hw
  obtain ⟨k, hk, rfl⟩ := List.mem_map.mp hw
  have hk : k < 39 := List.mem_range.mp hk
  match k, hk with
  | 0, _ => exact ly_Mod_0
  | 1, _ => exact ly_Mod_1
  | 2, _ => exact ly_Mod_2
  | 3, _ => exact ly_Mod_3
  | 4, _ => exact ly_Mod_4
  | 5, _ => exact ly_Mod_5
  | 6, _ => exact ly_Mod_6
  | 7, _ => exact ly_Mod_7
  | 8, _ => exact ly_Mod_8
  | 9, _ => exact ly_Mod_9
  | 10, _ => exact ly_Mod_10
  | 11, _ => exact ly_Mod_11
  | 12, _ => exact ly_Mod_12
  | 13, _ => exact ly_Mod_13
  | 14, _ => exact ly_Mod_14
  | 15, _ => exact ly_Mod_15
  | 16, _ => exact ly_Mod_16
  | 17, _ => exact ly_Mod_17
  | 18, _ => exact ly_Mod_18
  | 19, _ => exact ly_Mod_19
  | 20, _ => exact ly_Mod_20
  | 21, _ => exact ly_Mod_21
  | 22, _ => exact ly_Mod_22
  | 23, _ => exact ly_Mod_23
  | 24, _ => exact ly_Mod_24
  | 25, _ => exact ly_Mod_25
  | 26, _ => exact ly_Mod_26
  | 27, _ => exact ly_Mod_27
  | 28, _ => exact ly_Mod_28
  | 29, _ => exact ly_Mod_29
  | 30, _ => exact ly_Mod_30
  | 31, _ => exact ly_Mod_31
  | 32, _ => exact ly_Mod_32
  | 33, _ => exact ly_Mod_33
  | 34, _ => exact ly_Mod_34
  | 35, _ => exact ly_Mod_35
  | 36, _ => exact ly_Mod_36
  | 37, _ => exact ly_Mod_37
  | 38, _ => exact ly_Mod_38
  | k + 39, hk => exact absurd hk (by omega)
abbrev cx_cl : List vw_C := [(R_Acc, T_Acc, 6), (R_Frm, T_Frm, 17), (R_Log, T_Log, 4), (R_Mac, T_Mac, 6), (R_Rec, T_Rec, 5), (R_Led, T_Led, 14), (R_Mod, T_Mod, 39)]
end
section
abbrev b_Led_init : ByteArray := prog_1_method_1_code
def y_Led_init : MethodName := ⟨"GasLedger", "<init>", "()V"⟩
abbrev rt_Led_init : Option FieldType := (Option.none : Option FieldType)
theorem cd_Led_init : Cond.code y_Led_init b_Led_init 1 rt_Led_init ∈ cx_tb := gx_tb (c := (Jvm.Cond.code ({ cls := "GasLedger", name := "<init>", desc := "()V" } : Jvm.MethodName) prog_1_method_1_code (1 : Nat) (Option.none : Option Jvm.ClassFile.FieldType))) 58 (by decide +kernel) (by decide +kernel)
abbrev w_Led_init : List Cond := Cond.code y_Led_init b_Led_init 1 rt_Led_init :: cx_tb
abbrev b_Led_fund : ByteArray := prog_1_method_2_code
def y_Led_fund : MethodName := ⟨"GasLedger", "fund", "(II)Z"⟩
abbrev rt_Led_fund : Option FieldType := (Option.some FieldType.boolean)
theorem cd_Led_fund : Cond.code y_Led_fund b_Led_fund 3 rt_Led_fund ∈ cx_tb := gx_tb (c := (Jvm.Cond.code ({ cls := "GasLedger", name := "fund", desc := "(II)Z" } : Jvm.MethodName) prog_1_method_2_code (3 : Nat) (Option.some Jvm.ClassFile.FieldType.boolean))) 294 (by decide +kernel) (by decide +kernel)
abbrev w_Led_fund : List Cond := Cond.code y_Led_fund b_Led_fund 3 rt_Led_fund :: cx_tb
abbrev b_Led_code : ByteArray := prog_1_method_3_code
def y_Led_code : MethodName := ⟨"GasLedger", "code", "(II)Z"⟩
abbrev rt_Led_code : Option FieldType := (Option.some FieldType.boolean)
theorem cd_Led_code : Cond.code y_Led_code b_Led_code 3 rt_Led_code ∈ cx_tb := gx_tb (c := (Jvm.Cond.code ({ cls := "GasLedger", name := "code", desc := "(II)Z" } : Jvm.MethodName) prog_1_method_3_code (3 : Nat) (Option.some Jvm.ClassFile.FieldType.boolean))) 302 (by decide +kernel) (by decide +kernel)
abbrev w_Led_code : List Cond := Cond.code y_Led_code b_Led_code 3 rt_Led_code :: cx_tb
abbrev b_Led_preset : ByteArray := prog_1_method_4_code
def y_Led_preset : MethodName := ⟨"GasLedger", "preset", "(III)Z"⟩
abbrev rt_Led_preset : Option FieldType := (Option.some FieldType.boolean)
theorem cd_Led_preset : Cond.code y_Led_preset b_Led_preset 4 rt_Led_preset ∈ cx_tb := gx_tb (c := (Jvm.Cond.code ({ cls := "GasLedger", name := "preset", desc := "(III)Z" } : Jvm.MethodName) prog_1_method_4_code (4 : Nat) (Option.some Jvm.ClassFile.FieldType.boolean))) 310 (by decide +kernel) (by decide +kernel)
abbrev w_Led_preset : List Cond := Cond.code y_Led_preset b_Led_preset 4 rt_Led_preset :: cx_tb
abbrev b_Led_begin : ByteArray := prog_1_method_5_code
def y_Led_begin : MethodName := ⟨"GasLedger", "begin", "(II)Z"⟩
abbrev rt_Led_begin : Option FieldType := (Option.some FieldType.boolean)
theorem cd_Led_begin : Cond.code y_Led_begin b_Led_begin 3 rt_Led_begin ∈ cx_tb := gx_tb (c := (Jvm.Cond.code ({ cls := "GasLedger", name := "begin", desc := "(II)Z" } : Jvm.MethodName) prog_1_method_5_code (3 : Nat) (Option.some Jvm.ClassFile.FieldType.boolean))) 317 (by decide +kernel) (by decide +kernel)
abbrev w_Led_begin : List Cond := Cond.code y_Led_begin b_Led_begin 3 rt_Led_begin :: cx_tb
abbrev b_Led_send : ByteArray := prog_1_method_6_code
def y_Led_send : MethodName := ⟨"GasLedger", "send", "(IIII)I"⟩
abbrev rt_Led_send : Option FieldType := (Option.some FieldType.int)
theorem cd_Led_send : Cond.code y_Led_send b_Led_send 6 rt_Led_send ∈ cx_tb := gx_tb (c := (Jvm.Cond.code ({ cls := "GasLedger", name := "send", desc := "(IIII)I" } : Jvm.MethodName) prog_1_method_6_code (6 : Nat) (Option.some Jvm.ClassFile.FieldType.int))) 332 (by decide +kernel) (by decide +kernel)
abbrev w_Led_send : List Cond := Cond.code y_Led_send b_Led_send 6 rt_Led_send :: cx_tb
abbrev b_Led_terms : ByteArray := prog_1_method_7_code
def y_Led_terms : MethodName := ⟨"GasLedger", "terms", "(III)V"⟩
abbrev rt_Led_terms : Option FieldType := (Option.none : Option FieldType)
theorem cd_Led_terms : Cond.code y_Led_terms b_Led_terms 4 rt_Led_terms ∈ cx_tb := gx_tb (c := (Jvm.Cond.code ({ cls := "GasLedger", name := "terms", desc := "(III)V" } : Jvm.MethodName) prog_1_method_7_code (4 : Nat) (Option.none : Option Jvm.ClassFile.FieldType))) 517 (by decide +kernel) (by decide +kernel)
abbrev w_Led_terms : List Cond := Cond.code y_Led_terms b_Led_terms 4 rt_Led_terms :: cx_tb
abbrev b_Led_pay : ByteArray := prog_1_method_8_code
def y_Led_pay : MethodName := ⟨"GasLedger", "pay", "(IIII)I"⟩
abbrev rt_Led_pay : Option FieldType := (Option.some FieldType.int)
theorem cd_Led_pay : Cond.code y_Led_pay b_Led_pay 8 rt_Led_pay ∈ cx_tb := gx_tb (c := (Jvm.Cond.code ({ cls := "GasLedger", name := "pay", desc := "(IIII)I" } : Jvm.MethodName) prog_1_method_8_code (8 : Nat) (Option.some Jvm.ClassFile.FieldType.int))) 521 (by decide +kernel) (by decide +kernel)
abbrev w_Led_pay : List Cond := Cond.code y_Led_pay b_Led_pay 8 rt_Led_pay :: cx_tb
abbrev b_Led_seal : ByteArray := prog_1_method_9_code
def y_Led_seal : MethodName := ⟨"GasLedger", "seal", "(I)I"⟩
abbrev rt_Led_seal : Option FieldType := (Option.some FieldType.int)
theorem cd_Led_seal : Cond.code y_Led_seal b_Led_seal 2 rt_Led_seal ∈ cx_tb := gx_tb (c := (Jvm.Cond.code ({ cls := "GasLedger", name := "seal", desc := "(I)I" } : Jvm.MethodName) prog_1_method_9_code (2 : Nat) (Option.some Jvm.ClassFile.FieldType.int))) 526 (by decide +kernel) (by decide +kernel)
abbrev w_Led_seal : List Cond := Cond.code y_Led_seal b_Led_seal 2 rt_Led_seal :: cx_tb
abbrev b_Led_look : ByteArray := prog_1_method_10_code
def y_Led_look : MethodName := ⟨"GasLedger", "look", "(II)I"⟩
abbrev rt_Led_look : Option FieldType := (Option.some FieldType.int)
theorem cd_Led_look : Cond.code y_Led_look b_Led_look 3 rt_Led_look ∈ cx_tb := gx_tb (c := (Jvm.Cond.code ({ cls := "GasLedger", name := "look", desc := "(II)I" } : Jvm.MethodName) prog_1_method_10_code (3 : Nat) (Option.some Jvm.ClassFile.FieldType.int))) 530 (by decide +kernel) (by decide +kernel)
abbrev w_Led_look : List Cond := Cond.code y_Led_look b_Led_look 3 rt_Led_look :: cx_tb
abbrev b_Led_slot : ByteArray := prog_1_method_11_code
def y_Led_slot : MethodName := ⟨"GasLedger", "slot", "(II)I"⟩
abbrev rt_Led_slot : Option FieldType := (Option.some FieldType.int)
theorem cd_Led_slot : Cond.code y_Led_slot b_Led_slot 3 rt_Led_slot ∈ cx_tb := gx_tb (c := (Jvm.Cond.code ({ cls := "GasLedger", name := "slot", desc := "(II)I" } : Jvm.MethodName) prog_1_method_11_code (3 : Nat) (Option.some Jvm.ClassFile.FieldType.int))) 555 (by decide +kernel) (by decide +kernel)
abbrev w_Led_slot : List Cond := Cond.code y_Led_slot b_Led_slot 3 rt_Led_slot :: cx_tb
abbrev b_Led_word : ByteArray := prog_1_method_12_code
def y_Led_word : MethodName := ⟨"GasLedger", "word", "(II)I"⟩
abbrev rt_Led_word : Option FieldType := (Option.some FieldType.int)
theorem cd_Led_word : Cond.code y_Led_word b_Led_word 3 rt_Led_word ∈ cx_tb := gx_tb (c := (Jvm.Cond.code ({ cls := "GasLedger", name := "word", desc := "(II)I" } : Jvm.MethodName) prog_1_method_12_code (3 : Nat) (Option.some Jvm.ClassFile.FieldType.int))) 560 (by decide +kernel) (by decide +kernel)
abbrev w_Led_word : List Cond := Cond.code y_Led_word b_Led_word 3 rt_Led_word :: cx_tb
abbrev b_Led_root : ByteArray := prog_1_method_13_code
def y_Led_root : MethodName := ⟨"GasLedger", "root", "()I"⟩
abbrev rt_Led_root : Option FieldType := (Option.some FieldType.int)
theorem cd_Led_root : Cond.code y_Led_root b_Led_root 1 rt_Led_root ∈ cx_tb := gx_tb (c := (Jvm.Cond.code ({ cls := "GasLedger", name := "root", desc := "()I" } : Jvm.MethodName) prog_1_method_13_code (1 : Nat) (Option.some Jvm.ClassFile.FieldType.int))) 565 (by decide +kernel) (by decide +kernel)
abbrev w_Led_root : List Cond := Cond.code y_Led_root b_Led_root 1 rt_Led_root :: cx_tb
abbrev b_Led_block : ByteArray := prog_1_method_14_code
def y_Led_block : MethodName := ⟨"GasLedger", "block", "(I)I"⟩
abbrev rt_Led_block : Option FieldType := (Option.some FieldType.int)
theorem cd_Led_block : Cond.code y_Led_block b_Led_block 2 rt_Led_block ∈ cx_tb := gx_tb (c := (Jvm.Cond.code ({ cls := "GasLedger", name := "block", desc := "(I)I" } : Jvm.MethodName) prog_1_method_14_code (2 : Nat) (Option.some Jvm.ClassFile.FieldType.int))) 574 (by decide +kernel) (by decide +kernel)
abbrev w_Led_block : List Cond := Cond.code y_Led_block b_Led_block 2 rt_Led_block :: cx_tb
abbrev b_Led_receipt : ByteArray := prog_1_method_15_code
def y_Led_receipt : MethodName := ⟨"GasLedger", "receipt", "(II)I"⟩
abbrev rt_Led_receipt : Option FieldType := (Option.some FieldType.int)
theorem cd_Led_receipt : Cond.code y_Led_receipt b_Led_receipt 3 rt_Led_receipt ∈ cx_tb := gx_tb (c := (Jvm.Cond.code ({ cls := "GasLedger", name := "receipt", desc := "(II)I" } : Jvm.MethodName) prog_1_method_15_code (3 : Nat) (Option.some Jvm.ClassFile.FieldType.int))) 578 (by decide +kernel) (by decide +kernel)
abbrev w_Led_receipt : List Cond := Cond.code y_Led_receipt b_Led_receipt 3 rt_Led_receipt :: cx_tb
abbrev b_Led_log : ByteArray := prog_1_method_16_code
def y_Led_log : MethodName := ⟨"GasLedger", "log", "(II)I"⟩
abbrev rt_Led_log : Option FieldType := (Option.some FieldType.int)
theorem cd_Led_log : Cond.code y_Led_log b_Led_log 3 rt_Led_log ∈ cx_tb := gx_tb (c := (Jvm.Cond.code ({ cls := "GasLedger", name := "log", desc := "(II)I" } : Jvm.MethodName) prog_1_method_16_code (3 : Nat) (Option.some Jvm.ClassFile.FieldType.int))) 586 (by decide +kernel) (by decide +kernel)
abbrev w_Led_log : List Cond := Cond.code y_Led_log b_Led_log 3 rt_Led_log :: cx_tb
abbrev b_Led_total : ByteArray := prog_1_method_17_code
def y_Led_total : MethodName := ⟨"GasLedger", "total", "()J"⟩
abbrev rt_Led_total : Option FieldType := (Option.some FieldType.long)
theorem cd_Led_total : Cond.code y_Led_total b_Led_total 4 rt_Led_total ∈ cx_tb := gx_tb (c := (Jvm.Cond.code ({ cls := "GasLedger", name := "total", desc := "()J" } : Jvm.MethodName) prog_1_method_17_code (4 : Nat) (Option.some Jvm.ClassFile.FieldType.long))) 594 (by decide +kernel) (by decide +kernel)
abbrev w_Led_total : List Cond := Cond.code y_Led_total b_Led_total 4 rt_Led_total :: cx_tb
abbrev b_Led_refusalOf : ByteArray := prog_1_method_18_code
def y_Led_refusalOf : MethodName := ⟨"GasLedger", "refusalOf", "(IIIIII)I"⟩
abbrev rt_Led_refusalOf : Option FieldType := (Option.some FieldType.int)
theorem cd_Led_refusalOf : Cond.code y_Led_refusalOf b_Led_refusalOf 9 rt_Led_refusalOf ∈ cx_tb := gx_tb (c := (Jvm.Cond.code ({ cls := "GasLedger", name := "refusalOf", desc := "(IIIIII)I" } : Jvm.MethodName) prog_1_method_18_code (9 : Nat) (Option.some Jvm.ClassFile.FieldType.int))) 336 (by decide +kernel) (by decide +kernel)
abbrev w_Led_refusalOf : List Cond := Cond.code y_Led_refusalOf b_Led_refusalOf 9 rt_Led_refusalOf :: cx_tb
abbrev b_Led_perform : ByteArray := prog_1_method_19_code
def y_Led_perform : MethodName := ⟨"GasLedger", "perform", "(IIIIII)I"⟩
abbrev rt_Led_perform : Option FieldType := (Option.some FieldType.int)
theorem cd_Led_perform : Cond.code y_Led_perform b_Led_perform 12 rt_Led_perform ∈ cx_tb := gx_tb (c := (Jvm.Cond.code ({ cls := "GasLedger", name := "perform", desc := "(IIIIII)I" } : Jvm.MethodName) prog_1_method_19_code (12 : Nat) (Option.some Jvm.ClassFile.FieldType.int))) 340 (by decide +kernel) (by decide +kernel)
abbrev w_Led_perform : List Cond := Cond.code y_Led_perform b_Led_perform 12 rt_Led_perform :: cx_tb
abbrev b_Led_isAccount : ByteArray := prog_1_method_20_code
def y_Led_isAccount : MethodName := ⟨"GasLedger", "isAccount", "(I)Z"⟩
abbrev rt_Led_isAccount : Option FieldType := (Option.some FieldType.boolean)
theorem cd_Led_isAccount : Cond.code y_Led_isAccount b_Led_isAccount 1 rt_Led_isAccount ∈ cx_tb := gx_tb (c := (Jvm.Cond.code ({ cls := "GasLedger", name := "isAccount", desc := "(I)Z" } : Jvm.MethodName) prog_1_method_20_code (1 : Nat) (Option.some Jvm.ClassFile.FieldType.boolean))) 297 (by decide +kernel) (by decide +kernel)
abbrev w_Led_isAccount : List Cond := Cond.code y_Led_isAccount b_Led_isAccount 1 rt_Led_isAccount :: cx_tb
abbrev b_Led_isSlot : ByteArray := prog_1_method_21_code
def y_Led_isSlot : MethodName := ⟨"GasLedger", "isSlot", "(I)Z"⟩
abbrev rt_Led_isSlot : Option FieldType := (Option.some FieldType.boolean)
theorem cd_Led_isSlot : Cond.code y_Led_isSlot b_Led_isSlot 1 rt_Led_isSlot ∈ cx_tb := gx_tb (c := (Jvm.Cond.code ({ cls := "GasLedger", name := "isSlot", desc := "(I)Z" } : Jvm.MethodName) prog_1_method_21_code (1 : Nat) (Option.some Jvm.ClassFile.FieldType.boolean))) 313 (by decide +kernel) (by decide +kernel)
abbrev w_Led_isSlot : List Cond := Cond.code y_Led_isSlot b_Led_isSlot 1 rt_Led_isSlot :: cx_tb
abbrev b_Mod_init : ByteArray := prog_9_method_1_code
def y_Mod_init : MethodName := ⟨"GasLedgerModel", "<init>", "()V"⟩
abbrev rt_Mod_init : Option FieldType := (Option.none : Option FieldType)
theorem cd_Mod_init : Cond.code y_Mod_init b_Mod_init 1 rt_Mod_init ∈ cx_tb := gx_tb (c := (Jvm.Cond.code ({ cls := "GasLedgerModel", name := "<init>", desc := "()V" } : Jvm.MethodName) prog_9_method_1_code (1 : Nat) (Option.none : Option Jvm.ClassFile.FieldType))) 599 (by decide +kernel) (by decide +kernel)
abbrev w_Mod_init : List Cond := Cond.code y_Mod_init b_Mod_init 1 rt_Mod_init :: cx_tb
abbrev b_Mod_in : ByteArray := prog_9_method_2_code
def y_Mod_in : MethodName := ⟨"GasLedgerModel", "in", "(II)Z"⟩
abbrev rt_Mod_in : Option FieldType := (Option.some FieldType.boolean)
theorem cd_Mod_in : Cond.code y_Mod_in b_Mod_in 2 rt_Mod_in ∈ cx_tb := gx_tb (c := (Jvm.Cond.code ({ cls := "GasLedgerModel", name := "in", desc := "(II)Z" } : Jvm.MethodName) prog_9_method_2_code (2 : Nat) (Option.some Jvm.ClassFile.FieldType.boolean))) 726 (by decide +kernel) (by decide +kernel)
abbrev w_Mod_in : List Cond := Cond.code y_Mod_in b_Mod_in 2 rt_Mod_in :: cx_tb
abbrev b_Mod_fund : ByteArray := prog_9_method_3_code
def y_Mod_fund : MethodName := ⟨"GasLedgerModel", "fund", "(II)Z"⟩
abbrev rt_Mod_fund : Option FieldType := (Option.some FieldType.boolean)
theorem cd_Mod_fund : Cond.code y_Mod_fund b_Mod_fund 3 rt_Mod_fund ∈ cx_tb := gx_tb (c := (Jvm.Cond.code ({ cls := "GasLedgerModel", name := "fund", desc := "(II)Z" } : Jvm.MethodName) prog_9_method_3_code (3 : Nat) (Option.some Jvm.ClassFile.FieldType.boolean))) 723 (by decide +kernel) (by decide +kernel)
abbrev w_Mod_fund : List Cond := Cond.code y_Mod_fund b_Mod_fund 3 rt_Mod_fund :: cx_tb
abbrev b_Mod_code : ByteArray := prog_9_method_4_code
def y_Mod_code : MethodName := ⟨"GasLedgerModel", "code", "(II)Z"⟩
abbrev rt_Mod_code : Option FieldType := (Option.some FieldType.boolean)
theorem cd_Mod_code : Cond.code y_Mod_code b_Mod_code 4 rt_Mod_code ∈ cx_tb := gx_tb (c := (Jvm.Cond.code ({ cls := "GasLedgerModel", name := "code", desc := "(II)Z" } : Jvm.MethodName) prog_9_method_4_code (4 : Nat) (Option.some Jvm.ClassFile.FieldType.boolean))) 731 (by decide +kernel) (by decide +kernel)
abbrev w_Mod_code : List Cond := Cond.code y_Mod_code b_Mod_code 4 rt_Mod_code :: cx_tb
abbrev b_Mod_preset : ByteArray := prog_9_method_5_code
def y_Mod_preset : MethodName := ⟨"GasLedgerModel", "preset", "(III)Z"⟩
abbrev rt_Mod_preset : Option FieldType := (Option.some FieldType.boolean)
theorem cd_Mod_preset : Cond.code y_Mod_preset b_Mod_preset 4 rt_Mod_preset ∈ cx_tb := gx_tb (c := (Jvm.Cond.code ({ cls := "GasLedgerModel", name := "preset", desc := "(III)Z" } : Jvm.MethodName) prog_9_method_5_code (4 : Nat) (Option.some Jvm.ClassFile.FieldType.boolean))) 735 (by decide +kernel) (by decide +kernel)
abbrev w_Mod_preset : List Cond := Cond.code y_Mod_preset b_Mod_preset 4 rt_Mod_preset :: cx_tb
abbrev b_Mod_mix : ByteArray := prog_9_method_6_code
def y_Mod_mix : MethodName := ⟨"GasLedgerModel", "mix", "(II)I"⟩
abbrev rt_Mod_mix : Option FieldType := (Option.some FieldType.int)
theorem cd_Mod_mix : Cond.code y_Mod_mix b_Mod_mix 3 rt_Mod_mix ∈ cx_tb := gx_tb (c := (Jvm.Cond.code ({ cls := "GasLedgerModel", name := "mix", desc := "(II)I" } : Jvm.MethodName) prog_9_method_6_code (3 : Nat) (Option.some Jvm.ClassFile.FieldType.int))) 746 (by decide +kernel) (by decide +kernel)
abbrev w_Mod_mix : List Cond := Cond.code y_Mod_mix b_Mod_mix 3 rt_Mod_mix :: cx_tb
abbrev b_Mod_map : ByteArray := prog_9_method_7_code
def y_Mod_map : MethodName := ⟨"GasLedgerModel", "map", "(I)I"⟩
abbrev rt_Mod_map : Option FieldType := (Option.some FieldType.int)
theorem cd_Mod_map : Cond.code y_Mod_map b_Mod_map 4 rt_Mod_map ∈ cx_tb := gx_tb (c := (Jvm.Cond.code ({ cls := "GasLedgerModel", name := "map", desc := "(I)I" } : Jvm.MethodName) prog_9_method_7_code (4 : Nat) (Option.some Jvm.ClassFile.FieldType.int))) 755 (by decide +kernel) (by decide +kernel)
abbrev w_Mod_map : List Cond := Cond.code y_Mod_map b_Mod_map 4 rt_Mod_map :: cx_tb
abbrev b_Mod_part : ByteArray := prog_9_method_8_code
def y_Mod_part : MethodName := ⟨"GasLedgerModel", "part", "(III)I"⟩
abbrev rt_Mod_part : Option FieldType := (Option.some FieldType.int)
theorem cd_Mod_part : Cond.code y_Mod_part b_Mod_part 10 rt_Mod_part ∈ cx_tb := gx_tb (c := (Jvm.Cond.code ({ cls := "GasLedgerModel", name := "part", desc := "(III)I" } : Jvm.MethodName) prog_9_method_8_code (10 : Nat) (Option.some Jvm.ClassFile.FieldType.int))) 759 (by decide +kernel) (by decide +kernel)
abbrev w_Mod_part : List Cond := Cond.code y_Mod_part b_Mod_part 10 rt_Mod_part :: cx_tb
abbrev b_Mod_slotsRoot : ByteArray := prog_9_method_9_code
def y_Mod_slotsRoot : MethodName := ⟨"GasLedgerModel", "slotsRoot", "(I)I"⟩
abbrev rt_Mod_slotsRoot : Option FieldType := (Option.some FieldType.int)
theorem cd_Mod_slotsRoot : Cond.code y_Mod_slotsRoot b_Mod_slotsRoot 3 rt_Mod_slotsRoot ∈ cx_tb := gx_tb (c := (Jvm.Cond.code ({ cls := "GasLedgerModel", name := "slotsRoot", desc := "(I)I" } : Jvm.MethodName) prog_9_method_9_code (3 : Nat) (Option.some Jvm.ClassFile.FieldType.int))) 751 (by decide +kernel) (by decide +kernel)
abbrev w_Mod_slotsRoot : List Cond := Cond.code y_Mod_slotsRoot b_Mod_slotsRoot 3 rt_Mod_slotsRoot :: cx_tb
abbrev b_Mod_valueOf : ByteArray := prog_9_method_10_code
def y_Mod_valueOf : MethodName := ⟨"GasLedgerModel", "valueOf", "(I)I"⟩
abbrev rt_Mod_valueOf : Option FieldType := (Option.some FieldType.int)
theorem cd_Mod_valueOf : Cond.code y_Mod_valueOf b_Mod_valueOf 4 rt_Mod_valueOf ∈ cx_tb := gx_tb (c := (Jvm.Cond.code ({ cls := "GasLedgerModel", name := "valueOf", desc := "(I)I" } : Jvm.MethodName) prog_9_method_10_code (4 : Nat) (Option.some Jvm.ClassFile.FieldType.int))) 743 (by decide +kernel) (by decide +kernel)
abbrev w_Mod_valueOf : List Cond := Cond.code y_Mod_valueOf b_Mod_valueOf 4 rt_Mod_valueOf :: cx_tb
abbrev b_Mod_empty : ByteArray := prog_9_method_11_code
def y_Mod_empty : MethodName := ⟨"GasLedgerModel", "empty", "(I)Z"⟩
abbrev rt_Mod_empty : Option FieldType := (Option.some FieldType.boolean)
theorem cd_Mod_empty : Cond.code y_Mod_empty b_Mod_empty 4 rt_Mod_empty ∈ cx_tb := gx_tb (c := (Jvm.Cond.code ({ cls := "GasLedgerModel", name := "empty", desc := "(I)Z" } : Jvm.MethodName) prog_9_method_11_code (4 : Nat) (Option.some Jvm.ClassFile.FieldType.boolean))) 763 (by decide +kernel) (by decide +kernel)
abbrev w_Mod_empty : List Cond := Cond.code y_Mod_empty b_Mod_empty 4 rt_Mod_empty :: cx_tb
abbrev b_Mod_root : ByteArray := prog_9_method_12_code
def y_Mod_root : MethodName := ⟨"GasLedgerModel", "root", "()I"⟩
abbrev rt_Mod_root : Option FieldType := (Option.some FieldType.int)
theorem cd_Mod_root : Cond.code y_Mod_root b_Mod_root 2 rt_Mod_root ∈ cx_tb := gx_tb (c := (Jvm.Cond.code ({ cls := "GasLedgerModel", name := "root", desc := "()I" } : Jvm.MethodName) prog_9_method_12_code (2 : Nat) (Option.some Jvm.ClassFile.FieldType.int))) 739 (by decide +kernel) (by decide +kernel)
abbrev w_Mod_root : List Cond := Cond.code y_Mod_root b_Mod_root 2 rt_Mod_root :: cx_tb
abbrev b_Mod_enter : ByteArray := prog_9_method_13_code
def y_Mod_enter : MethodName := ⟨"GasLedgerModel", "enter", "(IIIIII)V"⟩
abbrev rt_Mod_enter : Option FieldType := (Option.none : Option FieldType)
theorem cd_Mod_enter : Cond.code y_Mod_enter b_Mod_enter 8 rt_Mod_enter ∈ cx_tb := gx_tb (c := (Jvm.Cond.code ({ cls := "GasLedgerModel", name := "enter", desc := "(IIIIII)V" } : Jvm.MethodName) prog_9_method_13_code (8 : Nat) (Option.none : Option Jvm.ClassFile.FieldType))) 779 (by decide +kernel) (by decide +kernel)
abbrev w_Mod_enter : List Cond := Cond.code y_Mod_enter b_Mod_enter 8 rt_Mod_enter :: cx_tb
abbrev b_Mod_give : ByteArray := prog_9_method_14_code
def y_Mod_give : MethodName := ⟨"GasLedgerModel", "give", "(III)V"⟩
abbrev rt_Mod_give : Option FieldType := (Option.none : Option FieldType)
theorem cd_Mod_give : Cond.code y_Mod_give b_Mod_give 4 rt_Mod_give ∈ cx_tb := gx_tb (c := (Jvm.Cond.code ({ cls := "GasLedgerModel", name := "give", desc := "(III)V" } : Jvm.MethodName) prog_9_method_14_code (4 : Nat) (Option.none : Option Jvm.ClassFile.FieldType))) 783 (by decide +kernel) (by decide +kernel)
abbrev w_Mod_give : List Cond := Cond.code y_Mod_give b_Mod_give 4 rt_Mod_give :: cx_tb
abbrev b_Mod_push : ByteArray := prog_9_method_15_code
def y_Mod_push : MethodName := ⟨"GasLedgerModel", "push", "(I)V"⟩
abbrev rt_Mod_push : Option FieldType := (Option.none : Option FieldType)
theorem cd_Mod_push : Cond.code y_Mod_push b_Mod_push 2 rt_Mod_push ∈ cx_tb := gx_tb (c := (Jvm.Cond.code ({ cls := "GasLedgerModel", name := "push", desc := "(I)V" } : Jvm.MethodName) prog_9_method_15_code (2 : Nat) (Option.none : Option Jvm.ClassFile.FieldType))) 796 (by decide +kernel) (by decide +kernel)
abbrev w_Mod_push : List Cond := Cond.code y_Mod_push b_Mod_push 2 rt_Mod_push :: cx_tb
abbrev b_Mod_pop : ByteArray := prog_9_method_16_code
def y_Mod_pop : MethodName := ⟨"GasLedgerModel", "pop", "()I"⟩
abbrev rt_Mod_pop : Option FieldType := (Option.some FieldType.int)
theorem cd_Mod_pop : Cond.code y_Mod_pop b_Mod_pop 1 rt_Mod_pop ∈ cx_tb := gx_tb (c := (Jvm.Cond.code ({ cls := "GasLedgerModel", name := "pop", desc := "()I" } : Jvm.MethodName) prog_9_method_16_code (1 : Nat) (Option.some Jvm.ClassFile.FieldType.int))) 822 (by decide +kernel) (by decide +kernel)
abbrev w_Mod_pop : List Cond := Cond.code y_Mod_pop b_Mod_pop 1 rt_Mod_pop :: cx_tb
abbrev b_Mod_peek : ByteArray := prog_9_method_17_code
def y_Mod_peek : MethodName := ⟨"GasLedgerModel", "peek", "(I)I"⟩
abbrev rt_Mod_peek : Option FieldType := (Option.some FieldType.int)
theorem cd_Mod_peek : Cond.code y_Mod_peek b_Mod_peek 2 rt_Mod_peek ∈ cx_tb := gx_tb (c := (Jvm.Cond.code ({ cls := "GasLedgerModel", name := "peek", desc := "(I)I" } : Jvm.MethodName) prog_9_method_17_code (2 : Nat) (Option.some Jvm.ClassFile.FieldType.int))) 810 (by decide +kernel) (by decide +kernel)
abbrev w_Mod_peek : List Cond := Cond.code y_Mod_peek b_Mod_peek 2 rt_Mod_peek :: cx_tb
abbrev b_Mod_leave : ByteArray := prog_9_method_18_code
def y_Mod_leave : MethodName := ⟨"GasLedgerModel", "leave", "(ZII)V"⟩
abbrev rt_Mod_leave : Option FieldType := (Option.none : Option FieldType)
theorem cd_Mod_leave : Cond.code y_Mod_leave b_Mod_leave 5 rt_Mod_leave ∈ cx_tb := gx_tb (c := (Jvm.Cond.code ({ cls := "GasLedgerModel", name := "leave", desc := "(ZII)V" } : Jvm.MethodName) prog_9_method_18_code (5 : Nat) (Option.none : Option Jvm.ClassFile.FieldType))) 792 (by decide +kernel) (by decide +kernel)
abbrev w_Mod_leave : List Cond := Cond.code y_Mod_leave b_Mod_leave 5 rt_Mod_leave :: cx_tb
abbrev b_Mod_pops : ByteArray := prog_9_method_19_code
def y_Mod_pops : MethodName := ⟨"GasLedgerModel", "pops", "(I)I"⟩
abbrev rt_Mod_pops : Option FieldType := (Option.some FieldType.int)
theorem cd_Mod_pops : Cond.code y_Mod_pops b_Mod_pops 1 rt_Mod_pops ∈ cx_tb := gx_tb (c := (Jvm.Cond.code ({ cls := "GasLedgerModel", name := "pops", desc := "(I)I" } : Jvm.MethodName) prog_9_method_19_code (1 : Nat) (Option.some Jvm.ClassFile.FieldType.int))) 799 (by decide +kernel) (by decide +kernel)
abbrev w_Mod_pops : List Cond := Cond.code y_Mod_pops b_Mod_pops 1 rt_Mod_pops :: cx_tb
abbrev b_Mod_pushes : ByteArray := prog_9_method_20_code
def y_Mod_pushes : MethodName := ⟨"GasLedgerModel", "pushes", "(I)I"⟩
abbrev rt_Mod_pushes : Option FieldType := (Option.some FieldType.int)
theorem cd_Mod_pushes : Cond.code y_Mod_pushes b_Mod_pushes 1 rt_Mod_pushes ∈ cx_tb := gx_tb (c := (Jvm.Cond.code ({ cls := "GasLedgerModel", name := "pushes", desc := "(I)I" } : Jvm.MethodName) prog_9_method_20_code (1 : Nat) (Option.some Jvm.ClassFile.FieldType.int))) 802 (by decide +kernel) (by decide +kernel)
abbrev w_Mod_pushes : List Cond := Cond.code y_Mod_pushes b_Mod_pushes 1 rt_Mod_pushes :: cx_tb
abbrev b_Mod_cost : ByteArray := prog_9_method_21_code
def y_Mod_cost : MethodName := ⟨"GasLedgerModel", "cost", "(I)I"⟩
abbrev rt_Mod_cost : Option FieldType := (Option.some FieldType.int)
theorem cd_Mod_cost : Cond.code y_Mod_cost b_Mod_cost 3 rt_Mod_cost ∈ cx_tb := gx_tb (c := (Jvm.Cond.code ({ cls := "GasLedgerModel", name := "cost", desc := "(I)I" } : Jvm.MethodName) prog_9_method_21_code (3 : Nat) (Option.some Jvm.ClassFile.FieldType.int))) 806 (by decide +kernel) (by decide +kernel)
abbrev w_Mod_cost : List Cond := Cond.code y_Mod_cost b_Mod_cost 3 rt_Mod_cost :: cx_tb
abbrev b_Mod_fails : ByteArray := prog_9_method_22_code
def y_Mod_fails : MethodName := ⟨"GasLedgerModel", "fails", "(II)Z"⟩
abbrev rt_Mod_fails : Option FieldType := (Option.some FieldType.boolean)
theorem cd_Mod_fails : Cond.code y_Mod_fails b_Mod_fails 6 rt_Mod_fails ∈ cx_tb := gx_tb (c := (Jvm.Cond.code ({ cls := "GasLedgerModel", name := "fails", desc := "(II)Z" } : Jvm.MethodName) prog_9_method_22_code (6 : Nat) (Option.some Jvm.ClassFile.FieldType.boolean))) 814 (by decide +kernel) (by decide +kernel)
abbrev w_Mod_fails : List Cond := Cond.code y_Mod_fails b_Mod_fails 6 rt_Mod_fails :: cx_tb
abbrev b_Mod_step : ByteArray := prog_9_method_23_code
def y_Mod_step : MethodName := ⟨"GasLedgerModel", "step", "()V"⟩
abbrev rt_Mod_step : Option FieldType := (Option.none : Option FieldType)
theorem cd_Mod_step : Cond.code y_Mod_step b_Mod_step 7 rt_Mod_step ∈ cx_tb := gx_tb (c := (Jvm.Cond.code ({ cls := "GasLedgerModel", name := "step", desc := "()V" } : Jvm.MethodName) prog_9_method_23_code (7 : Nat) (Option.none : Option Jvm.ClassFile.FieldType))) 788 (by decide +kernel) (by decide +kernel)
abbrev w_Mod_step : List Cond := Cond.code y_Mod_step b_Mod_step 7 rt_Mod_step :: cx_tb
abbrev b_Mod_shuffle : ByteArray := prog_9_method_24_code
def y_Mod_shuffle : MethodName := ⟨"GasLedgerModel", "shuffle", "(II)V"⟩
abbrev rt_Mod_shuffle : Option FieldType := (Option.none : Option FieldType)
theorem cd_Mod_shuffle : Cond.code y_Mod_shuffle b_Mod_shuffle 5 rt_Mod_shuffle ∈ cx_tb := gx_tb (c := (Jvm.Cond.code ({ cls := "GasLedgerModel", name := "shuffle", desc := "(II)V" } : Jvm.MethodName) prog_9_method_24_code (5 : Nat) (Option.none : Option Jvm.ClassFile.FieldType))) 818 (by decide +kernel) (by decide +kernel)
abbrev w_Mod_shuffle : List Cond := Cond.code y_Mod_shuffle b_Mod_shuffle 5 rt_Mod_shuffle :: cx_tb
abbrev b_Mod_reckon : ByteArray := prog_9_method_25_code
def y_Mod_reckon : MethodName := ⟨"GasLedgerModel", "reckon", "(I)V"⟩
abbrev rt_Mod_reckon : Option FieldType := (Option.none : Option FieldType)
theorem cd_Mod_reckon : Cond.code y_Mod_reckon b_Mod_reckon 4 rt_Mod_reckon ∈ cx_tb := gx_tb (c := (Jvm.Cond.code ({ cls := "GasLedgerModel", name := "reckon", desc := "(I)V" } : Jvm.MethodName) prog_9_method_25_code (4 : Nat) (Option.none : Option Jvm.ClassFile.FieldType))) 826 (by decide +kernel) (by decide +kernel)
abbrev w_Mod_reckon : List Cond := Cond.code y_Mod_reckon b_Mod_reckon 4 rt_Mod_reckon :: cx_tb
abbrev b_Mod_hold : ByteArray := prog_9_method_26_code
def y_Mod_hold : MethodName := ⟨"GasLedgerModel", "hold", "(I)V"⟩
abbrev rt_Mod_hold : Option FieldType := (Option.none : Option FieldType)
theorem cd_Mod_hold : Cond.code y_Mod_hold b_Mod_hold 6 rt_Mod_hold ∈ cx_tb := gx_tb (c := (Jvm.Cond.code ({ cls := "GasLedgerModel", name := "hold", desc := "(I)V" } : Jvm.MethodName) prog_9_method_26_code (6 : Nat) (Option.none : Option Jvm.ClassFile.FieldType))) 830 (by decide +kernel) (by decide +kernel)
abbrev w_Mod_hold : List Cond := Cond.code y_Mod_hold b_Mod_hold 6 rt_Mod_hold :: cx_tb
abbrev b_Mod_act : ByteArray := prog_9_method_27_code
def y_Mod_act : MethodName := ⟨"GasLedgerModel", "act", "(I)V"⟩
abbrev rt_Mod_act : Option FieldType := (Option.none : Option FieldType)
theorem cd_Mod_act : Cond.code y_Mod_act b_Mod_act 4 rt_Mod_act ∈ cx_tb := gx_tb (c := (Jvm.Cond.code ({ cls := "GasLedgerModel", name := "act", desc := "(I)V" } : Jvm.MethodName) prog_9_method_27_code (4 : Nat) (Option.none : Option Jvm.ClassFile.FieldType))) 834 (by decide +kernel) (by decide +kernel)
abbrev w_Mod_act : List Cond := Cond.code y_Mod_act b_Mod_act 4 rt_Mod_act :: cx_tb
abbrev b_Mod_call : ByteArray := prog_9_method_28_code
def y_Mod_call : MethodName := ⟨"GasLedgerModel", "call", "(Z)V"⟩
abbrev rt_Mod_call : Option FieldType := (Option.none : Option FieldType)
theorem cd_Mod_call : Cond.code y_Mod_call b_Mod_call 8 rt_Mod_call ∈ cx_tb := gx_tb (c := (Jvm.Cond.code ({ cls := "GasLedgerModel", name := "call", desc := "(Z)V" } : Jvm.MethodName) prog_9_method_28_code (8 : Nat) (Option.none : Option Jvm.ClassFile.FieldType))) 838 (by decide +kernel) (by decide +kernel)
abbrev w_Mod_call : List Cond := Cond.code y_Mod_call b_Mod_call 8 rt_Mod_call :: cx_tb
abbrev b_Mod_create : ByteArray := prog_9_method_29_code
def y_Mod_create : MethodName := ⟨"GasLedgerModel", "create", "()V"⟩
abbrev rt_Mod_create : Option FieldType := (Option.none : Option FieldType)
theorem cd_Mod_create : Cond.code y_Mod_create b_Mod_create 7 rt_Mod_create ∈ cx_tb := gx_tb (c := (Jvm.Cond.code ({ cls := "GasLedgerModel", name := "create", desc := "()V" } : Jvm.MethodName) prog_9_method_29_code (7 : Nat) (Option.none : Option Jvm.ClassFile.FieldType))) 842 (by decide +kernel) (by decide +kernel)
abbrev w_Mod_create : List Cond := Cond.code y_Mod_create b_Mod_create 7 rt_Mod_create :: cx_tb
abbrev b_Mod_terms : ByteArray := prog_9_method_30_code
def y_Mod_terms : MethodName := ⟨"GasLedgerModel", "terms", "(III)V"⟩
abbrev rt_Mod_terms : Option FieldType := (Option.none : Option FieldType)
theorem cd_Mod_terms : Cond.code y_Mod_terms b_Mod_terms 4 rt_Mod_terms ∈ cx_tb := gx_tb (c := (Jvm.Cond.code ({ cls := "GasLedgerModel", name := "terms", desc := "(III)V" } : Jvm.MethodName) prog_9_method_30_code (4 : Nat) (Option.none : Option Jvm.ClassFile.FieldType))) 767 (by decide +kernel) (by decide +kernel)
abbrev w_Mod_terms : List Cond := Cond.code y_Mod_terms b_Mod_terms 4 rt_Mod_terms :: cx_tb
abbrev b_Mod_send : ByteArray := prog_9_method_31_code
def y_Mod_send : MethodName := ⟨"GasLedgerModel", "send", "(IIII)I"⟩
abbrev rt_Mod_send : Option FieldType := (Option.some FieldType.int)
theorem cd_Mod_send : Cond.code y_Mod_send b_Mod_send 5 rt_Mod_send ∈ cx_tb := gx_tb (c := (Jvm.Cond.code ({ cls := "GasLedgerModel", name := "send", desc := "(IIII)I" } : Jvm.MethodName) prog_9_method_31_code (5 : Nat) (Option.some Jvm.ClassFile.FieldType.int))) 771 (by decide +kernel) (by decide +kernel)
abbrev w_Mod_send : List Cond := Cond.code y_Mod_send b_Mod_send 5 rt_Mod_send :: cx_tb
abbrev b_Mod_pay : ByteArray := prog_9_method_32_code
def y_Mod_pay : MethodName := ⟨"GasLedgerModel", "pay", "(IIII)I"⟩
abbrev rt_Mod_pay : Option FieldType := (Option.some FieldType.int)
theorem cd_Mod_pay : Cond.code y_Mod_pay b_Mod_pay 8 rt_Mod_pay ∈ cx_tb := gx_tb (c := (Jvm.Cond.code ({ cls := "GasLedgerModel", name := "pay", desc := "(IIII)I" } : Jvm.MethodName) prog_9_method_32_code (8 : Nat) (Option.some Jvm.ClassFile.FieldType.int))) 850 (by decide +kernel) (by decide +kernel)
abbrev w_Mod_pay : List Cond := Cond.code y_Mod_pay b_Mod_pay 8 rt_Mod_pay :: cx_tb
abbrev b_Mod_transact : ByteArray := prog_9_method_33_code
def y_Mod_transact : MethodName := ⟨"GasLedgerModel", "transact", "(IIIIIII)I"⟩
abbrev rt_Mod_transact : Option FieldType := (Option.some FieldType.int)
theorem cd_Mod_transact : Cond.code y_Mod_transact b_Mod_transact 11 rt_Mod_transact ∈ cx_tb := gx_tb (c := (Jvm.Cond.code ({ cls := "GasLedgerModel", name := "transact", desc := "(IIIIIII)I" } : Jvm.MethodName) prog_9_method_33_code (11 : Nat) (Option.some Jvm.ClassFile.FieldType.int))) 775 (by decide +kernel) (by decide +kernel)
abbrev w_Mod_transact : List Cond := Cond.code y_Mod_transact b_Mod_transact 11 rt_Mod_transact :: cx_tb
abbrev b_Mod_wipe : ByteArray := prog_9_method_34_code
def y_Mod_wipe : MethodName := ⟨"GasLedgerModel", "wipe", "(I)V"⟩
abbrev rt_Mod_wipe : Option FieldType := (Option.none : Option FieldType)
theorem cd_Mod_wipe : Cond.code y_Mod_wipe b_Mod_wipe 3 rt_Mod_wipe ∈ cx_tb := gx_tb (c := (Jvm.Cond.code ({ cls := "GasLedgerModel", name := "wipe", desc := "(I)V" } : Jvm.MethodName) prog_9_method_34_code (3 : Nat) (Option.none : Option Jvm.ClassFile.FieldType))) 846 (by decide +kernel) (by decide +kernel)
abbrev w_Mod_wipe : List Cond := Cond.code y_Mod_wipe b_Mod_wipe 3 rt_Mod_wipe :: cx_tb
abbrev b_Mod_begin : ByteArray := prog_9_method_35_code
def y_Mod_begin : MethodName := ⟨"GasLedgerModel", "begin", "(II)Z"⟩
abbrev rt_Mod_begin : Option FieldType := (Option.some FieldType.boolean)
theorem cd_Mod_begin : Cond.code y_Mod_begin b_Mod_begin 4 rt_Mod_begin ∈ cx_tb := gx_tb (c := (Jvm.Cond.code ({ cls := "GasLedgerModel", name := "begin", desc := "(II)Z" } : Jvm.MethodName) prog_9_method_35_code (4 : Nat) (Option.some Jvm.ClassFile.FieldType.boolean))) 855 (by decide +kernel) (by decide +kernel)
abbrev w_Mod_begin : List Cond := Cond.code y_Mod_begin b_Mod_begin 4 rt_Mod_begin :: cx_tb
abbrev b_Mod_seal : ByteArray := prog_9_method_36_code
def y_Mod_seal : MethodName := ⟨"GasLedgerModel", "seal", "(I)I"⟩
abbrev rt_Mod_seal : Option FieldType := (Option.some FieldType.int)
theorem cd_Mod_seal : Cond.code y_Mod_seal b_Mod_seal 3 rt_Mod_seal ∈ cx_tb := gx_tb (c := (Jvm.Cond.code ({ cls := "GasLedgerModel", name := "seal", desc := "(I)I" } : Jvm.MethodName) prog_9_method_36_code (3 : Nat) (Option.some Jvm.ClassFile.FieldType.int))) 859 (by decide +kernel) (by decide +kernel)
abbrev w_Mod_seal : List Cond := Cond.code y_Mod_seal b_Mod_seal 3 rt_Mod_seal :: cx_tb
abbrev b_Mod_look : ByteArray := prog_9_method_37_code
def y_Mod_look : MethodName := ⟨"GasLedgerModel", "look", "(II)I"⟩
abbrev rt_Mod_look : Option FieldType := (Option.some FieldType.int)
theorem cd_Mod_look : Cond.code y_Mod_look b_Mod_look 3 rt_Mod_look ∈ cx_tb := gx_tb (c := (Jvm.Cond.code ({ cls := "GasLedgerModel", name := "look", desc := "(II)I" } : Jvm.MethodName) prog_9_method_37_code (3 : Nat) (Option.some Jvm.ClassFile.FieldType.int))) 863 (by decide +kernel) (by decide +kernel)
abbrev w_Mod_look : List Cond := Cond.code y_Mod_look b_Mod_look 3 rt_Mod_look :: cx_tb
abbrev b_Mod_slot : ByteArray := prog_9_method_38_code
def y_Mod_slot : MethodName := ⟨"GasLedgerModel", "slot", "(II)I"⟩
abbrev rt_Mod_slot : Option FieldType := (Option.some FieldType.int)
theorem cd_Mod_slot : Cond.code y_Mod_slot b_Mod_slot 3 rt_Mod_slot ∈ cx_tb := gx_tb (c := (Jvm.Cond.code ({ cls := "GasLedgerModel", name := "slot", desc := "(II)I" } : Jvm.MethodName) prog_9_method_38_code (3 : Nat) (Option.some Jvm.ClassFile.FieldType.int))) 867 (by decide +kernel) (by decide +kernel)
abbrev w_Mod_slot : List Cond := Cond.code y_Mod_slot b_Mod_slot 3 rt_Mod_slot :: cx_tb
abbrev b_Mod_word : ByteArray := prog_9_method_39_code
def y_Mod_word : MethodName := ⟨"GasLedgerModel", "word", "(II)I"⟩
abbrev rt_Mod_word : Option FieldType := (Option.some FieldType.int)
theorem cd_Mod_word : Cond.code y_Mod_word b_Mod_word 3 rt_Mod_word ∈ cx_tb := gx_tb (c := (Jvm.Cond.code ({ cls := "GasLedgerModel", name := "word", desc := "(II)I" } : Jvm.MethodName) prog_9_method_39_code (3 : Nat) (Option.some Jvm.ClassFile.FieldType.int))) 871 (by decide +kernel) (by decide +kernel)
abbrev w_Mod_word : List Cond := Cond.code y_Mod_word b_Mod_word 3 rt_Mod_word :: cx_tb
abbrev b_Mod_bloom : ByteArray := prog_9_method_40_code
def y_Mod_bloom : MethodName := ⟨"GasLedgerModel", "bloom", "()I"⟩
abbrev rt_Mod_bloom : Option FieldType := (Option.some FieldType.int)
theorem cd_Mod_bloom : Cond.code y_Mod_bloom b_Mod_bloom 4 rt_Mod_bloom ∈ cx_tb := gx_tb (c := (Jvm.Cond.code ({ cls := "GasLedgerModel", name := "bloom", desc := "()I" } : Jvm.MethodName) prog_9_method_40_code (4 : Nat) (Option.some Jvm.ClassFile.FieldType.int))) 879 (by decide +kernel) (by decide +kernel)
abbrev w_Mod_bloom : List Cond := Cond.code y_Mod_bloom b_Mod_bloom 4 rt_Mod_bloom :: cx_tb
abbrev b_Mod_block : ByteArray := prog_9_method_41_code
def y_Mod_block : MethodName := ⟨"GasLedgerModel", "block", "(I)I"⟩
abbrev rt_Mod_block : Option FieldType := (Option.some FieldType.int)
theorem cd_Mod_block : Cond.code y_Mod_block b_Mod_block 2 rt_Mod_block ∈ cx_tb := gx_tb (c := (Jvm.Cond.code ({ cls := "GasLedgerModel", name := "block", desc := "(I)I" } : Jvm.MethodName) prog_9_method_41_code (2 : Nat) (Option.some Jvm.ClassFile.FieldType.int))) 875 (by decide +kernel) (by decide +kernel)
abbrev w_Mod_block : List Cond := Cond.code y_Mod_block b_Mod_block 2 rt_Mod_block :: cx_tb
abbrev b_Mod_receipt : ByteArray := prog_9_method_42_code
def y_Mod_receipt : MethodName := ⟨"GasLedgerModel", "receipt", "(II)I"⟩
abbrev rt_Mod_receipt : Option FieldType := (Option.some FieldType.int)
theorem cd_Mod_receipt : Cond.code y_Mod_receipt b_Mod_receipt 3 rt_Mod_receipt ∈ cx_tb := gx_tb (c := (Jvm.Cond.code ({ cls := "GasLedgerModel", name := "receipt", desc := "(II)I" } : Jvm.MethodName) prog_9_method_42_code (3 : Nat) (Option.some Jvm.ClassFile.FieldType.int))) 883 (by decide +kernel) (by decide +kernel)
abbrev w_Mod_receipt : List Cond := Cond.code y_Mod_receipt b_Mod_receipt 3 rt_Mod_receipt :: cx_tb
abbrev b_Mod_log : ByteArray := prog_9_method_43_code
def y_Mod_log : MethodName := ⟨"GasLedgerModel", "log", "(II)I"⟩
abbrev rt_Mod_log : Option FieldType := (Option.some FieldType.int)
theorem cd_Mod_log : Cond.code y_Mod_log b_Mod_log 3 rt_Mod_log ∈ cx_tb := gx_tb (c := (Jvm.Cond.code ({ cls := "GasLedgerModel", name := "log", desc := "(II)I" } : Jvm.MethodName) prog_9_method_43_code (3 : Nat) (Option.some Jvm.ClassFile.FieldType.int))) 887 (by decide +kernel) (by decide +kernel)
abbrev w_Mod_log : List Cond := Cond.code y_Mod_log b_Mod_log 3 rt_Mod_log :: cx_tb
abbrev b_Mod_total : ByteArray := prog_9_method_44_code
def y_Mod_total : MethodName := ⟨"GasLedgerModel", "total", "()J"⟩
abbrev rt_Mod_total : Option FieldType := (Option.some FieldType.long)
theorem cd_Mod_total : Cond.code y_Mod_total b_Mod_total 4 rt_Mod_total ∈ cx_tb := gx_tb (c := (Jvm.Cond.code ({ cls := "GasLedgerModel", name := "total", desc := "()J" } : Jvm.MethodName) prog_9_method_44_code (4 : Nat) (Option.some Jvm.ClassFile.FieldType.long))) 891 (by decide +kernel) (by decide +kernel)
abbrev w_Mod_total : List Cond := Cond.code y_Mod_total b_Mod_total 4 rt_Mod_total :: cx_tb
abbrev b_Acc_init : ByteArray := prog_2_method_1_code
def y_Acc_init : MethodName := ⟨"GasLedger$Accounts", "<init>", "()V"⟩
abbrev rt_Acc_init : Option FieldType := (Option.none : Option FieldType)
theorem cd_Acc_init : Cond.code y_Acc_init b_Acc_init 1 rt_Acc_init ∈ cx_tb := gx_tb (c := (Jvm.Cond.code ({ cls := "GasLedger$Accounts", name := "<init>", desc := "()V" } : Jvm.MethodName) prog_2_method_1_code (1 : Nat) (Option.none : Option Jvm.ClassFile.FieldType))) 72 (by decide +kernel) (by decide +kernel)
abbrev w_Acc_init : List Cond := Cond.code y_Acc_init b_Acc_init 1 rt_Acc_init :: cx_tb
abbrev b_Acc_copyFrom : ByteArray := prog_2_method_2_code
def y_Acc_copyFrom : MethodName := ⟨"GasLedger$Accounts", "copyFrom", "(LGasLedger$Accounts;)V"⟩
abbrev rt_Acc_copyFrom : Option FieldType := (Option.none : Option FieldType)
theorem cd_Acc_copyFrom : Cond.code y_Acc_copyFrom b_Acc_copyFrom 2 rt_Acc_copyFrom ∈ cx_tb := gx_tb (c := (Jvm.Cond.code ({ cls := "GasLedger$Accounts", name := "copyFrom", desc := "(LGasLedger$Accounts;)V" } : Jvm.MethodName) prog_2_method_2_code (2 : Nat) (Option.none : Option Jvm.ClassFile.FieldType))) 325 (by decide +kernel) (by decide +kernel)
abbrev w_Acc_copyFrom : List Cond := Cond.code y_Acc_copyFrom b_Acc_copyFrom 2 rt_Acc_copyFrom :: cx_tb
abbrev b_Acc_append : ByteArray := prog_2_method_3_code
def y_Acc_append : MethodName := ⟨"GasLedger$Accounts", "append", "(II)Z"⟩
abbrev rt_Acc_append : Option FieldType := (Option.some FieldType.boolean)
theorem cd_Acc_append : Cond.code y_Acc_append b_Acc_append 3 rt_Acc_append ∈ cx_tb := gx_tb (c := (Jvm.Cond.code ({ cls := "GasLedger$Accounts", name := "append", desc := "(II)Z" } : Jvm.MethodName) prog_2_method_3_code (3 : Nat) (Option.some Jvm.ClassFile.FieldType.boolean))) 306 (by decide +kernel) (by decide +kernel)
abbrev w_Acc_append : List Cond := Cond.code y_Acc_append b_Acc_append 3 rt_Acc_append :: cx_tb
abbrev b_Acc_wordOf : ByteArray := prog_2_method_4_code
def y_Acc_wordOf : MethodName := ⟨"GasLedger$Accounts", "wordOf", "(II)I"⟩
abbrev rt_Acc_wordOf : Option FieldType := (Option.some FieldType.int)
theorem cd_Acc_wordOf : Cond.code y_Acc_wordOf b_Acc_wordOf 3 rt_Acc_wordOf ∈ cx_tb := gx_tb (c := (Jvm.Cond.code ({ cls := "GasLedger$Accounts", name := "wordOf", desc := "(II)I" } : Jvm.MethodName) prog_2_method_4_code (3 : Nat) (Option.some Jvm.ClassFile.FieldType.int))) 366 (by decide +kernel) (by decide +kernel)
abbrev w_Acc_wordOf : List Cond := Cond.code y_Acc_wordOf b_Acc_wordOf 3 rt_Acc_wordOf :: cx_tb
abbrev b_Acc_slotOf : ByteArray := prog_2_method_5_code
def y_Acc_slotOf : MethodName := ⟨"GasLedger$Accounts", "slotOf", "(II)I"⟩
abbrev rt_Acc_slotOf : Option FieldType := (Option.some FieldType.int)
theorem cd_Acc_slotOf : Cond.code y_Acc_slotOf b_Acc_slotOf 3 rt_Acc_slotOf ∈ cx_tb := gx_tb (c := (Jvm.Cond.code ({ cls := "GasLedger$Accounts", name := "slotOf", desc := "(II)I" } : Jvm.MethodName) prog_2_method_5_code (3 : Nat) (Option.some Jvm.ClassFile.FieldType.int))) 381 (by decide +kernel) (by decide +kernel)
abbrev w_Acc_slotOf : List Cond := Cond.code y_Acc_slotOf b_Acc_slotOf 3 rt_Acc_slotOf :: cx_tb
abbrev b_Acc_balanceOf : ByteArray := prog_2_method_6_code
def y_Acc_balanceOf : MethodName := ⟨"GasLedger$Accounts", "balanceOf", "(I)I"⟩
abbrev rt_Acc_balanceOf : Option FieldType := (Option.some FieldType.int)
theorem cd_Acc_balanceOf : Cond.code y_Acc_balanceOf b_Acc_balanceOf 2 rt_Acc_balanceOf ∈ cx_tb := gx_tb (c := (Jvm.Cond.code ({ cls := "GasLedger$Accounts", name := "balanceOf", desc := "(I)I" } : Jvm.MethodName) prog_2_method_6_code (2 : Nat) (Option.some Jvm.ClassFile.FieldType.int))) 488 (by decide +kernel) (by decide +kernel)
abbrev w_Acc_balanceOf : List Cond := Cond.code y_Acc_balanceOf b_Acc_balanceOf 2 rt_Acc_balanceOf :: cx_tb
abbrev b_Acc_give : ByteArray := prog_2_method_7_code
def y_Acc_give : MethodName := ⟨"GasLedger$Accounts", "give", "(III)V"⟩
abbrev rt_Acc_give : Option FieldType := (Option.none : Option FieldType)
theorem cd_Acc_give : Cond.code y_Acc_give b_Acc_give 4 rt_Acc_give ∈ cx_tb := gx_tb (c := (Jvm.Cond.code ({ cls := "GasLedger$Accounts", name := "give", desc := "(III)V" } : Jvm.MethodName) prog_2_method_7_code (4 : Nat) (Option.none : Option Jvm.ClassFile.FieldType))) 357 (by decide +kernel) (by decide +kernel)
abbrev w_Acc_give : List Cond := Cond.code y_Acc_give b_Acc_give 4 rt_Acc_give :: cx_tb
abbrev b_Acc_clear : ByteArray := prog_2_method_8_code
def y_Acc_clear : MethodName := ⟨"GasLedger$Accounts", "clear", "(I)V"⟩
abbrev rt_Acc_clear : Option FieldType := (Option.none : Option FieldType)
theorem cd_Acc_clear : Cond.code y_Acc_clear b_Acc_clear 3 rt_Acc_clear ∈ cx_tb := gx_tb (c := (Jvm.Cond.code ({ cls := "GasLedger$Accounts", name := "clear", desc := "(I)V" } : Jvm.MethodName) prog_2_method_8_code (3 : Nat) (Option.none : Option Jvm.ClassFile.FieldType))) 509 (by decide +kernel) (by decide +kernel)
abbrev w_Acc_clear : List Cond := Cond.code y_Acc_clear b_Acc_clear 3 rt_Acc_clear :: cx_tb
abbrev b_Acc_isEmpty : ByteArray := prog_2_method_9_code
def y_Acc_isEmpty : MethodName := ⟨"GasLedger$Accounts", "isEmpty", "(I)Z"⟩
abbrev rt_Acc_isEmpty : Option FieldType := (Option.some FieldType.boolean)
theorem cd_Acc_isEmpty : Cond.code y_Acc_isEmpty b_Acc_isEmpty 2 rt_Acc_isEmpty ∈ cx_tb := gx_tb (c := (Jvm.Cond.code ({ cls := "GasLedger$Accounts", name := "isEmpty", desc := "(I)Z" } : Jvm.MethodName) prog_2_method_9_code (2 : Nat) (Option.some Jvm.ClassFile.FieldType.boolean))) 463 (by decide +kernel) (by decide +kernel)
abbrev w_Acc_isEmpty : List Cond := Cond.code y_Acc_isEmpty b_Acc_isEmpty 2 rt_Acc_isEmpty :: cx_tb
abbrev b_Acc_leastEmpty : ByteArray := prog_2_method_10_code
def y_Acc_leastEmpty : MethodName := ⟨"GasLedger$Accounts", "leastEmpty", "()I"⟩
abbrev rt_Acc_leastEmpty : Option FieldType := (Option.some FieldType.int)
theorem cd_Acc_leastEmpty : Cond.code y_Acc_leastEmpty b_Acc_leastEmpty 2 rt_Acc_leastEmpty ∈ cx_tb := gx_tb (c := (Jvm.Cond.code ({ cls := "GasLedger$Accounts", name := "leastEmpty", desc := "()I" } : Jvm.MethodName) prog_2_method_10_code (2 : Nat) (Option.some Jvm.ClassFile.FieldType.int))) 459 (by decide +kernel) (by decide +kernel)
abbrev w_Acc_leastEmpty : List Cond := Cond.code y_Acc_leastEmpty b_Acc_leastEmpty 2 rt_Acc_leastEmpty :: cx_tb
abbrev b_Acc_filledSlots : ByteArray := prog_2_method_11_code
def y_Acc_filledSlots : MethodName := ⟨"GasLedger$Accounts", "filledSlots", "(I)I"⟩
abbrev rt_Acc_filledSlots : Option FieldType := (Option.some FieldType.int)
theorem cd_Acc_filledSlots : Cond.code y_Acc_filledSlots b_Acc_filledSlots 4 rt_Acc_filledSlots ∈ cx_tb := gx_tb (c := (Jvm.Cond.code ({ cls := "GasLedger$Accounts", name := "filledSlots", desc := "(I)I" } : Jvm.MethodName) prog_2_method_11_code (4 : Nat) (Option.some Jvm.ClassFile.FieldType.int))) 467 (by decide +kernel) (by decide +kernel)
abbrev w_Acc_filledSlots : List Cond := Cond.code y_Acc_filledSlots b_Acc_filledSlots 4 rt_Acc_filledSlots :: cx_tb
abbrev b_Acc_slotsRoot : ByteArray := prog_2_method_12_code
def y_Acc_slotsRoot : MethodName := ⟨"GasLedger$Accounts", "slotsRoot", "(I)I"⟩
abbrev rt_Acc_slotsRoot : Option FieldType := (Option.some FieldType.int)
theorem cd_Acc_slotsRoot : Cond.code y_Acc_slotsRoot b_Acc_slotsRoot 2 rt_Acc_slotsRoot ∈ cx_tb := gx_tb (c := (Jvm.Cond.code ({ cls := "GasLedger$Accounts", name := "slotsRoot", desc := "(I)I" } : Jvm.MethodName) prog_2_method_12_code (2 : Nat) (Option.some Jvm.ClassFile.FieldType.int))) 534 (by decide +kernel) (by decide +kernel)
abbrev w_Acc_slotsRoot : List Cond := Cond.code y_Acc_slotsRoot b_Acc_slotsRoot 2 rt_Acc_slotsRoot :: cx_tb
abbrev b_Acc_codeNumber : ByteArray := prog_2_method_13_code
def y_Acc_codeNumber : MethodName := ⟨"GasLedger$Accounts", "codeNumber", "(I)I"⟩
abbrev rt_Acc_codeNumber : Option FieldType := (Option.some FieldType.int)
theorem cd_Acc_codeNumber : Cond.code y_Acc_codeNumber b_Acc_codeNumber 4 rt_Acc_codeNumber ∈ cx_tb := gx_tb (c := (Jvm.Cond.code ({ cls := "GasLedger$Accounts", name := "codeNumber", desc := "(I)I" } : Jvm.MethodName) prog_2_method_13_code (4 : Nat) (Option.some Jvm.ClassFile.FieldType.int))) 550 (by decide +kernel) (by decide +kernel)
abbrev w_Acc_codeNumber : List Cond := Cond.code y_Acc_codeNumber b_Acc_codeNumber 4 rt_Acc_codeNumber :: cx_tb
abbrev b_Acc_valueOf : ByteArray := prog_2_method_14_code
def y_Acc_valueOf : MethodName := ⟨"GasLedger$Accounts", "valueOf", "(I)I"⟩
abbrev rt_Acc_valueOf : Option FieldType := (Option.some FieldType.int)
theorem cd_Acc_valueOf : Cond.code y_Acc_valueOf b_Acc_valueOf 3 rt_Acc_valueOf ∈ cx_tb := gx_tb (c := (Jvm.Cond.code ({ cls := "GasLedger$Accounts", name := "valueOf", desc := "(I)I" } : Jvm.MethodName) prog_2_method_14_code (3 : Nat) (Option.some Jvm.ClassFile.FieldType.int))) 545 (by decide +kernel) (by decide +kernel)
abbrev w_Acc_valueOf : List Cond := Cond.code y_Acc_valueOf b_Acc_valueOf 3 rt_Acc_valueOf :: cx_tb
abbrev b_Acc_rootOfAll : ByteArray := prog_2_method_15_code
def y_Acc_rootOfAll : MethodName := ⟨"GasLedger$Accounts", "rootOfAll", "()I"⟩
abbrev rt_Acc_rootOfAll : Option FieldType := (Option.some FieldType.int)
theorem cd_Acc_rootOfAll : Cond.code y_Acc_rootOfAll b_Acc_rootOfAll 3 rt_Acc_rootOfAll ∈ cx_tb := gx_tb (c := (Jvm.Cond.code ({ cls := "GasLedger$Accounts", name := "rootOfAll", desc := "()I" } : Jvm.MethodName) prog_2_method_15_code (3 : Nat) (Option.some Jvm.ClassFile.FieldType.int))) 569 (by decide +kernel) (by decide +kernel)
abbrev w_Acc_rootOfAll : List Cond := Cond.code y_Acc_rootOfAll b_Acc_rootOfAll 3 rt_Acc_rootOfAll :: cx_tb
abbrev b_Com_mix : ByteArray := prog_3_method_2_code
def y_Com_mix : MethodName := ⟨"GasLedger$Commitment", "mix", "(II)I"⟩
abbrev rt_Com_mix : Option FieldType := (Option.some FieldType.int)
theorem cd_Com_mix : Cond.code y_Com_mix b_Com_mix 3 rt_Com_mix ∈ cx_tb := gx_tb (c := (Jvm.Cond.code ({ cls := "GasLedger$Commitment", name := "mix", desc := "(II)I" } : Jvm.MethodName) prog_3_method_2_code (3 : Nat) (Option.some Jvm.ClassFile.FieldType.int))) 475 (by decide +kernel) (by decide +kernel)
abbrev w_Com_mix : List Cond := Cond.code y_Com_mix b_Com_mix 3 rt_Com_mix :: cx_tb
abbrev b_Com_rootOfMap : ByteArray := prog_3_method_3_code
def y_Com_rootOfMap : MethodName := ⟨"GasLedger$Commitment", "rootOfMap", "([IIII)I"⟩
abbrev rt_Com_rootOfMap : Option FieldType := (Option.some FieldType.int)
theorem cd_Com_rootOfMap : Cond.code y_Com_rootOfMap b_Com_rootOfMap 4 rt_Com_rootOfMap ∈ cx_tb := gx_tb (c := (Jvm.Cond.code ({ cls := "GasLedger$Commitment", name := "rootOfMap", desc := "([IIII)I" } : Jvm.MethodName) prog_3_method_3_code (4 : Nat) (Option.some Jvm.ClassFile.FieldType.int))) 537 (by decide +kernel) (by decide +kernel)
abbrev w_Com_rootOfMap : List Cond := Cond.code y_Com_rootOfMap b_Com_rootOfMap 4 rt_Com_rootOfMap :: cx_tb
abbrev b_Com_rootOfPart : ByteArray := prog_3_method_4_code
def y_Com_rootOfPart : MethodName := ⟨"GasLedger$Commitment", "rootOfPart", "([IIIII)I"⟩
abbrev rt_Com_rootOfPart : Option FieldType := (Option.some FieldType.int)
theorem cd_Com_rootOfPart : Cond.code y_Com_rootOfPart b_Com_rootOfPart 10 rt_Com_rootOfPart ∈ cx_tb := gx_tb (c := (Jvm.Cond.code ({ cls := "GasLedger$Commitment", name := "rootOfPart", desc := "([IIIII)I" } : Jvm.MethodName) prog_3_method_4_code (10 : Nat) (Option.some Jvm.ClassFile.FieldType.int))) 540 (by decide +kernel) (by decide +kernel)
abbrev w_Com_rootOfPart : List Cond := Cond.code y_Com_rootOfPart b_Com_rootOfPart 10 rt_Com_rootOfPart :: cx_tb
abbrev b_Frm_init : ByteArray := prog_4_method_1_code
def y_Frm_init : MethodName := ⟨"GasLedger$Frame", "<init>", "()V"⟩
abbrev rt_Frm_init : Option FieldType := (Option.none : Option FieldType)
theorem cd_Frm_init : Cond.code y_Frm_init b_Frm_init 1 rt_Frm_init ∈ cx_tb := gx_tb (c := (Jvm.Cond.code ({ cls := "GasLedger$Frame", name := "<init>", desc := "()V" } : Jvm.MethodName) prog_4_method_1_code (1 : Nat) (Option.none : Option Jvm.ClassFile.FieldType))) 130 (by decide +kernel) (by decide +kernel)
abbrev w_Frm_init : List Cond := Cond.code y_Frm_init b_Frm_init 1 rt_Frm_init :: cx_tb
abbrev b_Frm_start : ByteArray := prog_4_method_2_code
def y_Frm_start : MethodName := ⟨"GasLedger$Frame", "start", "(IIIIII)V"⟩
abbrev rt_Frm_start : Option FieldType := (Option.none : Option FieldType)
theorem cd_Frm_start : Cond.code y_Frm_start b_Frm_start 7 rt_Frm_start ∈ cx_tb := gx_tb (c := (Jvm.Cond.code ({ cls := "GasLedger$Frame", name := "start", desc := "(IIIIII)V" } : Jvm.MethodName) prog_4_method_2_code (7 : Nat) (Option.none : Option Jvm.ClassFile.FieldType))) 352 (by decide +kernel) (by decide +kernel)
abbrev w_Frm_start : List Cond := Cond.code y_Frm_start b_Frm_start 7 rt_Frm_start :: cx_tb
abbrev b_Frm_end : ByteArray := prog_4_method_3_code
def y_Frm_end : MethodName := ⟨"GasLedger$Frame", "end", "(ZI)V"⟩
abbrev rt_Frm_end : Option FieldType := (Option.none : Option FieldType)
theorem cd_Frm_end : Cond.code y_Frm_end b_Frm_end 3 rt_Frm_end ∈ cx_tb := gx_tb (c := (Jvm.Cond.code ({ cls := "GasLedger$Frame", name := "end", desc := "(ZI)V" } : Jvm.MethodName) prog_4_method_3_code (3 : Nat) (Option.none : Option Jvm.ClassFile.FieldType))) 404 (by decide +kernel) (by decide +kernel)
abbrev w_Frm_end : List Cond := Cond.code y_Frm_end b_Frm_end 3 rt_Frm_end :: cx_tb
abbrev b_Frm_fail : ByteArray := prog_4_method_4_code
def y_Frm_fail : MethodName := ⟨"GasLedger$Frame", "fail", "()V"⟩
abbrev rt_Frm_fail : Option FieldType := (Option.none : Option FieldType)
theorem cd_Frm_fail : Cond.code y_Frm_fail b_Frm_fail 1 rt_Frm_fail ∈ cx_tb := gx_tb (c := (Jvm.Cond.code ({ cls := "GasLedger$Frame", name := "fail", desc := "()V" } : Jvm.MethodName) prog_4_method_4_code (1 : Nat) (Option.none : Option Jvm.ClassFile.FieldType))) 400 (by decide +kernel) (by decide +kernel)
abbrev w_Frm_fail : List Cond := Cond.code y_Frm_fail b_Frm_fail 1 rt_Frm_fail :: cx_tb
abbrev b_Frm_below : ByteArray := prog_4_method_5_code
def y_Frm_below : MethodName := ⟨"GasLedger$Frame", "below", "(I)I"⟩
abbrev rt_Frm_below : Option FieldType := (Option.some FieldType.int)
theorem cd_Frm_below : Cond.code y_Frm_below b_Frm_below 3 rt_Frm_below ∈ cx_tb := gx_tb (c := (Jvm.Cond.code ({ cls := "GasLedger$Frame", name := "below", desc := "(I)I" } : Jvm.MethodName) prog_4_method_5_code (3 : Nat) (Option.some Jvm.ClassFile.FieldType.int))) 377 (by decide +kernel) (by decide +kernel)
abbrev w_Frm_below : List Cond := Cond.code y_Frm_below b_Frm_below 3 rt_Frm_below :: cx_tb
abbrev b_Frm_push : ByteArray := prog_4_method_6_code
def y_Frm_push : MethodName := ⟨"GasLedger$Frame", "push", "(I)V"⟩
abbrev rt_Frm_push : Option FieldType := (Option.none : Option FieldType)
theorem cd_Frm_push : Cond.code y_Frm_push b_Frm_push 2 rt_Frm_push ∈ cx_tb := gx_tb (c := (Jvm.Cond.code ({ cls := "GasLedger$Frame", name := "push", desc := "(I)V" } : Jvm.MethodName) prog_4_method_6_code (2 : Nat) (Option.none : Option Jvm.ClassFile.FieldType))) 443 (by decide +kernel) (by decide +kernel)
abbrev w_Frm_push : List Cond := Cond.code y_Frm_push b_Frm_push 2 rt_Frm_push :: cx_tb
abbrev b_Frm_pop : ByteArray := prog_4_method_7_code
def y_Frm_pop : MethodName := ⟨"GasLedger$Frame", "pop", "()I"⟩
abbrev rt_Frm_pop : Option FieldType := (Option.some FieldType.int)
theorem cd_Frm_pop : Cond.code y_Frm_pop b_Frm_pop 1 rt_Frm_pop ∈ cx_tb := gx_tb (c := (Jvm.Cond.code ({ cls := "GasLedger$Frame", name := "pop", desc := "()I" } : Jvm.MethodName) prog_4_method_7_code (1 : Nat) (Option.some Jvm.ClassFile.FieldType.int))) 409 (by decide +kernel) (by decide +kernel)
abbrev w_Frm_pop : List Cond := Cond.code y_Frm_pop b_Frm_pop 1 rt_Frm_pop :: cx_tb
abbrev b_Frm_swap : ByteArray := prog_4_method_8_code
def y_Frm_swap : MethodName := ⟨"GasLedger$Frame", "swap", "(I)V"⟩
abbrev rt_Frm_swap : Option FieldType := (Option.none : Option FieldType)
theorem cd_Frm_swap : Cond.code y_Frm_swap b_Frm_swap 4 rt_Frm_swap ∈ cx_tb := gx_tb (c := (Jvm.Cond.code ({ cls := "GasLedger$Frame", name := "swap", desc := "(I)V" } : Jvm.MethodName) prog_4_method_8_code (4 : Nat) (Option.none : Option Jvm.ClassFile.FieldType))) 413 (by decide +kernel) (by decide +kernel)
abbrev w_Frm_swap : List Cond := Cond.code y_Frm_swap b_Frm_swap 4 rt_Frm_swap :: cx_tb
abbrev b_Log_init : ByteArray := prog_5_method_1_code
def y_Log_init : MethodName := ⟨"GasLedger$Logs", "<init>", "()V"⟩
abbrev rt_Log_init : Option FieldType := (Option.none : Option FieldType)
theorem cd_Log_init : Cond.code y_Log_init b_Log_init 1 rt_Log_init ∈ cx_tb := gx_tb (c := (Jvm.Cond.code ({ cls := "GasLedger$Logs", name := "<init>", desc := "()V" } : Jvm.MethodName) prog_5_method_1_code (1 : Nat) (Option.none : Option Jvm.ClassFile.FieldType))) 106 (by decide +kernel) (by decide +kernel)
abbrev w_Log_init : List Cond := Cond.code y_Log_init b_Log_init 1 rt_Log_init :: cx_tb
abbrev b_Log_add : ByteArray := prog_5_method_2_code
def y_Log_add : MethodName := ⟨"GasLedger$Logs", "add", "(II)V"⟩
abbrev rt_Log_add : Option FieldType := (Option.none : Option FieldType)
theorem cd_Log_add : Cond.code y_Log_add b_Log_add 3 rt_Log_add ∈ cx_tb := gx_tb (c := (Jvm.Cond.code ({ cls := "GasLedger$Logs", name := "add", desc := "(II)V" } : Jvm.MethodName) prog_5_method_2_code (3 : Nat) (Option.none : Option Jvm.ClassFile.FieldType))) 472 (by decide +kernel) (by decide +kernel)
abbrev w_Log_add : List Cond := Cond.code y_Log_add b_Log_add 3 rt_Log_add :: cx_tb
abbrev b_Log_cutBackTo : ByteArray := prog_5_method_3_code
def y_Log_cutBackTo : MethodName := ⟨"GasLedger$Logs", "cutBackTo", "(II)V"⟩
abbrev rt_Log_cutBackTo : Option FieldType := (Option.none : Option FieldType)
theorem cd_Log_cutBackTo : Cond.code y_Log_cutBackTo b_Log_cutBackTo 3 rt_Log_cutBackTo ∈ cx_tb := gx_tb (c := (Jvm.Cond.code ({ cls := "GasLedger$Logs", name := "cutBackTo", desc := "(II)V" } : Jvm.MethodName) prog_5_method_3_code (3 : Nat) (Option.none : Option Jvm.ClassFile.FieldType))) 321 (by decide +kernel) (by decide +kernel)
abbrev w_Log_cutBackTo : List Cond := Cond.code y_Log_cutBackTo b_Log_cutBackTo 3 rt_Log_cutBackTo :: cx_tb
abbrev b_Log_partOf : ByteArray := prog_5_method_4_code
def y_Log_partOf : MethodName := ⟨"GasLedger$Logs", "partOf", "(II)I"⟩
abbrev rt_Log_partOf : Option FieldType := (Option.some FieldType.int)
theorem cd_Log_partOf : Cond.code y_Log_partOf b_Log_partOf 3 rt_Log_partOf ∈ cx_tb := gx_tb (c := (Jvm.Cond.code ({ cls := "GasLedger$Logs", name := "partOf", desc := "(II)I" } : Jvm.MethodName) prog_5_method_4_code (3 : Nat) (Option.some Jvm.ClassFile.FieldType.int))) 590 (by decide +kernel) (by decide +kernel)
abbrev w_Log_partOf : List Cond := Cond.code y_Log_partOf b_Log_partOf 3 rt_Log_partOf :: cx_tb
abbrev b_Mac_init : ByteArray := prog_6_method_1_code
def y_Mac_init : MethodName := ⟨"GasLedger$Machine", "<init>", "()V"⟩
abbrev rt_Mac_init : Option FieldType := (Option.none : Option FieldType)
theorem cd_Mac_init : Cond.code y_Mac_init b_Mac_init 2 rt_Mac_init ∈ cx_tb := gx_tb (c := (Jvm.Cond.code ({ cls := "GasLedger$Machine", name := "<init>", desc := "()V" } : Jvm.MethodName) prog_6_method_1_code (2 : Nat) (Option.none : Option Jvm.ClassFile.FieldType))) 66 (by decide +kernel) (by decide +kernel)
abbrev w_Mac_init : List Cond := Cond.code y_Mac_init b_Mac_init 2 rt_Mac_init :: cx_tb
abbrev b_Mac_run : ByteArray := prog_6_method_2_code
def y_Mac_run : MethodName := ⟨"GasLedger$Machine", "run", "(IIIII)LGasLedger$Frame;"⟩
abbrev rt_Mac_run : Option FieldType := (Option.some (FieldType.object "GasLedger$Frame"))
theorem cd_Mac_run : Cond.code y_Mac_run b_Mac_run 8 rt_Mac_run ∈ cx_tb := gx_tb (c := (Jvm.Cond.code ({ cls := "GasLedger$Machine", name := "run", desc := "(IIIII)LGasLedger$Frame;" } : Jvm.MethodName) prog_6_method_2_code (8 : Nat) (Option.some (Jvm.ClassFile.FieldType.object "GasLedger$Frame")))) 344 (by decide +kernel) (by decide +kernel)
abbrev w_Mac_run : List Cond := Cond.code y_Mac_run b_Mac_run 8 rt_Mac_run :: cx_tb
abbrev b_Mac_removeGoers : ByteArray := prog_6_method_3_code
def y_Mac_removeGoers : MethodName := ⟨"GasLedger$Machine", "removeGoers", "()V"⟩
abbrev rt_Mac_removeGoers : Option FieldType := (Option.none : Option FieldType)
theorem cd_Mac_removeGoers : Cond.code y_Mac_removeGoers b_Mac_removeGoers 2 rt_Mac_removeGoers ∈ cx_tb := gx_tb (c := (Jvm.Cond.code ({ cls := "GasLedger$Machine", name := "removeGoers", desc := "()V" } : Jvm.MethodName) prog_6_method_3_code (2 : Nat) (Option.none : Option Jvm.ClassFile.FieldType))) 505 (by decide +kernel) (by decide +kernel)
abbrev w_Mac_removeGoers : List Cond := Cond.code y_Mac_removeGoers b_Mac_removeGoers 2 rt_Mac_removeGoers :: cx_tb
abbrev b_Mac_enter : ByteArray := prog_6_method_4_code
def y_Mac_enter : MethodName := ⟨"GasLedger$Machine", "enter", "(IIIIII)V"⟩
abbrev rt_Mac_enter : Option FieldType := (Option.none : Option FieldType)
theorem cd_Mac_enter : Cond.code y_Mac_enter b_Mac_enter 8 rt_Mac_enter ∈ cx_tb := gx_tb (c := (Jvm.Cond.code ({ cls := "GasLedger$Machine", name := "enter", desc := "(IIIIII)V" } : Jvm.MethodName) prog_6_method_4_code (8 : Nat) (Option.none : Option Jvm.ClassFile.FieldType))) 348 (by decide +kernel) (by decide +kernel)
abbrev w_Mac_enter : List Cond := Cond.code y_Mac_enter b_Mac_enter 8 rt_Mac_enter :: cx_tb
abbrev b_Mac_undo : ByteArray := prog_6_method_5_code
def y_Mac_undo : MethodName := ⟨"GasLedger$Machine", "undo", "(LGasLedger$Frame;)V"⟩
abbrev rt_Mac_undo : Option FieldType := (Option.none : Option FieldType)
theorem cd_Mac_undo : Cond.code y_Mac_undo b_Mac_undo 2 rt_Mac_undo ∈ cx_tb := gx_tb (c := (Jvm.Cond.code ({ cls := "GasLedger$Machine", name := "undo", desc := "(LGasLedger$Frame;)V" } : Jvm.MethodName) prog_6_method_5_code (2 : Nat) (Option.none : Option Jvm.ClassFile.FieldType))) 499 (by decide +kernel) (by decide +kernel)
abbrev w_Mac_undo : List Cond := Cond.code y_Mac_undo b_Mac_undo 2 rt_Mac_undo :: cx_tb
abbrev b_Mac_leave : ByteArray := prog_6_method_6_code
def y_Mac_leave : MethodName := ⟨"GasLedger$Machine", "leave", "(LGasLedger$Frame;)V"⟩
abbrev rt_Mac_leave : Option FieldType := (Option.none : Option FieldType)
theorem cd_Mac_leave : Cond.code y_Mac_leave b_Mac_leave 3 rt_Mac_leave ∈ cx_tb := gx_tb (c := (Jvm.Cond.code ({ cls := "GasLedger$Machine", name := "leave", desc := "(LGasLedger$Frame;)V" } : Jvm.MethodName) prog_6_method_6_code (3 : Nat) (Option.none : Option Jvm.ClassFile.FieldType))) 495 (by decide +kernel) (by decide +kernel)
abbrev w_Mac_leave : List Cond := Cond.code y_Mac_leave b_Mac_leave 3 rt_Mac_leave :: cx_tb
abbrev b_Mac_step : ByteArray := prog_6_method_7_code
def y_Mac_step : MethodName := ⟨"GasLedger$Machine", "step", "(LGasLedger$Frame;)V"⟩
abbrev rt_Mac_step : Option FieldType := (Option.none : Option FieldType)
theorem cd_Mac_step : Cond.code y_Mac_step b_Mac_step 7 rt_Mac_step ∈ cx_tb := gx_tb (c := (Jvm.Cond.code ({ cls := "GasLedger$Machine", name := "step", desc := "(LGasLedger$Frame;)V" } : Jvm.MethodName) prog_6_method_7_code (7 : Nat) (Option.none : Option Jvm.ClassFile.FieldType))) 362 (by decide +kernel) (by decide +kernel)
abbrev w_Mac_step : List Cond := Cond.code y_Mac_step b_Mac_step 7 rt_Mac_step :: cx_tb
abbrev b_Mac_priceOf : ByteArray := prog_6_method_8_code
def y_Mac_priceOf : MethodName := ⟨"GasLedger$Machine", "priceOf", "(LGasLedger$Frame;I)I"⟩
abbrev rt_Mac_priceOf : Option FieldType := (Option.some FieldType.int)
theorem cd_Mac_priceOf : Cond.code y_Mac_priceOf b_Mac_priceOf 5 rt_Mac_priceOf ∈ cx_tb := gx_tb (c := (Jvm.Cond.code ({ cls := "GasLedger$Machine", name := "priceOf", desc := "(LGasLedger$Frame;I)I" } : Jvm.MethodName) prog_6_method_8_code (5 : Nat) (Option.some Jvm.ClassFile.FieldType.int))) 371 (by decide +kernel) (by decide +kernel)
abbrev w_Mac_priceOf : List Cond := Cond.code y_Mac_priceOf b_Mac_priceOf 5 rt_Mac_priceOf :: cx_tb
abbrev b_Mac_needsOf : ByteArray := prog_6_method_9_code
def y_Mac_needsOf : MethodName := ⟨"GasLedger$Machine", "needsOf", "(II)I"⟩
abbrev rt_Mac_needsOf : Option FieldType := (Option.some FieldType.int)
theorem cd_Mac_needsOf : Cond.code y_Mac_needsOf b_Mac_needsOf 2 rt_Mac_needsOf ∈ cx_tb := gx_tb (c := (Jvm.Cond.code ({ cls := "GasLedger$Machine", name := "needsOf", desc := "(II)I" } : Jvm.MethodName) prog_6_method_9_code (2 : Nat) (Option.some Jvm.ClassFile.FieldType.int))) 394 (by decide +kernel) (by decide +kernel)
abbrev w_Mac_needsOf : List Cond := Cond.code y_Mac_needsOf b_Mac_needsOf 2 rt_Mac_needsOf :: cx_tb
abbrev b_Mac_onlyPushes : ByteArray := prog_6_method_10_code
def y_Mac_onlyPushes : MethodName := ⟨"GasLedger$Machine", "onlyPushes", "(I)Z"⟩
abbrev rt_Mac_onlyPushes : Option FieldType := (Option.some FieldType.boolean)
theorem cd_Mac_onlyPushes : Cond.code y_Mac_onlyPushes b_Mac_onlyPushes 1 rt_Mac_onlyPushes ∈ cx_tb := gx_tb (c := (Jvm.Cond.code ({ cls := "GasLedger$Machine", name := "onlyPushes", desc := "(I)Z" } : Jvm.MethodName) prog_6_method_10_code (1 : Nat) (Option.some Jvm.ClassFile.FieldType.boolean))) 391 (by decide +kernel) (by decide +kernel)
abbrev w_Mac_onlyPushes : List Cond := Cond.code y_Mac_onlyPushes b_Mac_onlyPushes 1 rt_Mac_onlyPushes :: cx_tb
abbrev b_Mac_resultOf : ByteArray := prog_6_method_11_code
def y_Mac_resultOf : MethodName := ⟨"GasLedger$Machine", "resultOf", "(LGasLedger$Frame;II)I"⟩
abbrev rt_Mac_resultOf : Option FieldType := (Option.some FieldType.int)
theorem cd_Mac_resultOf : Cond.code y_Mac_resultOf b_Mac_resultOf 6 rt_Mac_resultOf ∈ cx_tb := gx_tb (c := (Jvm.Cond.code ({ cls := "GasLedger$Machine", name := "resultOf", desc := "(LGasLedger$Frame;II)I" } : Jvm.MethodName) prog_6_method_11_code (6 : Nat) (Option.some Jvm.ClassFile.FieldType.int))) 484 (by decide +kernel) (by decide +kernel)
abbrev w_Mac_resultOf : List Cond := Cond.code y_Mac_resultOf b_Mac_resultOf 6 rt_Mac_resultOf :: cx_tb
abbrev b_Mac_reckon : ByteArray := prog_6_method_12_code
def y_Mac_reckon : MethodName := ⟨"GasLedger$Machine", "reckon", "(III)I"⟩
abbrev rt_Mac_reckon : Option FieldType := (Option.some FieldType.int)
theorem cd_Mac_reckon : Cond.code y_Mac_reckon b_Mac_reckon 3 rt_Mac_reckon ∈ cx_tb := gx_tb (c := (Jvm.Cond.code ({ cls := "GasLedger$Machine", name := "reckon", desc := "(III)I" } : Jvm.MethodName) prog_6_method_12_code (3 : Nat) (Option.some Jvm.ClassFile.FieldType.int))) 491 (by decide +kernel) (by decide +kernel)
abbrev w_Mac_reckon : List Cond := Cond.code y_Mac_reckon b_Mac_reckon 3 rt_Mac_reckon :: cx_tb
abbrev b_Mac_jump : ByteArray := prog_6_method_13_code
def y_Mac_jump : MethodName := ⟨"GasLedger$Machine", "jump", "(LGasLedger$Frame;I)V"⟩
abbrev rt_Mac_jump : Option FieldType := (Option.none : Option FieldType)
theorem cd_Mac_jump : Cond.code y_Mac_jump b_Mac_jump 3 rt_Mac_jump ∈ cx_tb := gx_tb (c := (Jvm.Cond.code ({ cls := "GasLedger$Machine", name := "jump", desc := "(LGasLedger$Frame;I)V" } : Jvm.MethodName) prog_6_method_13_code (3 : Nat) (Option.none : Option Jvm.ClassFile.FieldType))) 417 (by decide +kernel) (by decide +kernel)
abbrev w_Mac_jump : List Cond := Cond.code y_Mac_jump b_Mac_jump 3 rt_Mac_jump :: cx_tb
abbrev b_Mac_jumpIf : ByteArray := prog_6_method_14_code
def y_Mac_jumpIf : MethodName := ⟨"GasLedger$Machine", "jumpIf", "(LGasLedger$Frame;)V"⟩
abbrev rt_Mac_jumpIf : Option FieldType := (Option.none : Option FieldType)
theorem cd_Mac_jumpIf : Cond.code y_Mac_jumpIf b_Mac_jumpIf 3 rt_Mac_jumpIf ∈ cx_tb := gx_tb (c := (Jvm.Cond.code ({ cls := "GasLedger$Machine", name := "jumpIf", desc := "(LGasLedger$Frame;)V" } : Jvm.MethodName) prog_6_method_14_code (3 : Nat) (Option.none : Option Jvm.ClassFile.FieldType))) 421 (by decide +kernel) (by decide +kernel)
abbrev w_Mac_jumpIf : List Cond := Cond.code y_Mac_jumpIf b_Mac_jumpIf 3 rt_Mac_jumpIf :: cx_tb
abbrev b_Mac_store : ByteArray := prog_6_method_15_code
def y_Mac_store : MethodName := ⟨"GasLedger$Machine", "store", "(LGasLedger$Frame;)V"⟩
abbrev rt_Mac_store : Option FieldType := (Option.none : Option FieldType)
theorem cd_Mac_store : Cond.code y_Mac_store b_Mac_store 5 rt_Mac_store ∈ cx_tb := gx_tb (c := (Jvm.Cond.code ({ cls := "GasLedger$Machine", name := "store", desc := "(LGasLedger$Frame;)V" } : Jvm.MethodName) prog_6_method_15_code (5 : Nat) (Option.none : Option Jvm.ClassFile.FieldType))) 425 (by decide +kernel) (by decide +kernel)
abbrev w_Mac_store : List Cond := Cond.code y_Mac_store b_Mac_store 5 rt_Mac_store :: cx_tb
abbrev b_Mac_callOther : ByteArray := prog_6_method_16_code
def y_Mac_callOther : MethodName := ⟨"GasLedger$Machine", "callOther", "(LGasLedger$Frame;)V"⟩
abbrev rt_Mac_callOther : Option FieldType := (Option.none : Option FieldType)
theorem cd_Mac_callOther : Cond.code y_Mac_callOther b_Mac_callOther 7 rt_Mac_callOther ∈ cx_tb := gx_tb (c := (Jvm.Cond.code ({ cls := "GasLedger$Machine", name := "callOther", desc := "(LGasLedger$Frame;)V" } : Jvm.MethodName) prog_6_method_16_code (7 : Nat) (Option.none : Option Jvm.ClassFile.FieldType))) 430 (by decide +kernel) (by decide +kernel)
abbrev w_Mac_callOther : List Cond := Cond.code y_Mac_callOther b_Mac_callOther 7 rt_Mac_callOther :: cx_tb
abbrev b_Mac_delegate : ByteArray := prog_6_method_17_code
def y_Mac_delegate : MethodName := ⟨"GasLedger$Machine", "delegate", "(LGasLedger$Frame;)V"⟩
abbrev rt_Mac_delegate : Option FieldType := (Option.none : Option FieldType)
theorem cd_Mac_delegate : Cond.code y_Mac_delegate b_Mac_delegate 5 rt_Mac_delegate ∈ cx_tb := gx_tb (c := (Jvm.Cond.code ({ cls := "GasLedger$Machine", name := "delegate", desc := "(LGasLedger$Frame;)V" } : Jvm.MethodName) prog_6_method_17_code (5 : Nat) (Option.none : Option Jvm.ClassFile.FieldType))) 451 (by decide +kernel) (by decide +kernel)
abbrev w_Mac_delegate : List Cond := Cond.code y_Mac_delegate b_Mac_delegate 5 rt_Mac_delegate :: cx_tb
abbrev b_Mac_canEnter : ByteArray := prog_6_method_18_code
def y_Mac_canEnter : MethodName := ⟨"GasLedger$Machine", "canEnter", "(I)Z"⟩
abbrev rt_Mac_canEnter : Option FieldType := (Option.some FieldType.boolean)
theorem cd_Mac_canEnter : Cond.code y_Mac_canEnter b_Mac_canEnter 2 rt_Mac_canEnter ∈ cx_tb := gx_tb (c := (Jvm.Cond.code ({ cls := "GasLedger$Machine", name := "canEnter", desc := "(I)Z" } : Jvm.MethodName) prog_6_method_18_code (2 : Nat) (Option.some Jvm.ClassFile.FieldType.boolean))) 434 (by decide +kernel) (by decide +kernel)
abbrev w_Mac_canEnter : List Cond := Cond.code y_Mac_canEnter b_Mac_canEnter 2 rt_Mac_canEnter :: cx_tb
abbrev b_Mac_pushNoFrame : ByteArray := prog_6_method_19_code
def y_Mac_pushNoFrame : MethodName := ⟨"GasLedger$Machine", "pushNoFrame", "(LGasLedger$Frame;)V"⟩
abbrev rt_Mac_pushNoFrame : Option FieldType := (Option.none : Option FieldType)
theorem cd_Mac_pushNoFrame : Cond.code y_Mac_pushNoFrame b_Mac_pushNoFrame 2 rt_Mac_pushNoFrame ∈ cx_tb := gx_tb (c := (Jvm.Cond.code ({ cls := "GasLedger$Machine", name := "pushNoFrame", desc := "(LGasLedger$Frame;)V" } : Jvm.MethodName) prog_6_method_19_code (2 : Nat) (Option.none : Option Jvm.ClassFile.FieldType))) 439 (by decide +kernel) (by decide +kernel)
abbrev w_Mac_pushNoFrame : List Cond := Cond.code y_Mac_pushNoFrame b_Mac_pushNoFrame 2 rt_Mac_pushNoFrame :: cx_tb
abbrev b_Mac_takeGas : ByteArray := prog_6_method_20_code
def y_Mac_takeGas : MethodName := ⟨"GasLedger$Machine", "takeGas", "(LGasLedger$Frame;I)I"⟩
abbrev rt_Mac_takeGas : Option FieldType := (Option.some FieldType.int)
theorem cd_Mac_takeGas : Cond.code y_Mac_takeGas b_Mac_takeGas 4 rt_Mac_takeGas ∈ cx_tb := gx_tb (c := (Jvm.Cond.code ({ cls := "GasLedger$Machine", name := "takeGas", desc := "(LGasLedger$Frame;I)I" } : Jvm.MethodName) prog_6_method_20_code (4 : Nat) (Option.some Jvm.ClassFile.FieldType.int))) 447 (by decide +kernel) (by decide +kernel)
abbrev w_Mac_takeGas : List Cond := Cond.code y_Mac_takeGas b_Mac_takeGas 4 rt_Mac_takeGas :: cx_tb
abbrev b_Mac_create : ByteArray := prog_6_method_21_code
def y_Mac_create : MethodName := ⟨"GasLedger$Machine", "create", "(LGasLedger$Frame;)V"⟩
abbrev rt_Mac_create : Option FieldType := (Option.none : Option FieldType)
theorem cd_Mac_create : Cond.code y_Mac_create b_Mac_create 8 rt_Mac_create ∈ cx_tb := gx_tb (c := (Jvm.Cond.code ({ cls := "GasLedger$Machine", name := "create", desc := "(LGasLedger$Frame;)V" } : Jvm.MethodName) prog_6_method_21_code (8 : Nat) (Option.none : Option Jvm.ClassFile.FieldType))) 455 (by decide +kernel) (by decide +kernel)
abbrev w_Mac_create : List Cond := Cond.code y_Mac_create b_Mac_create 8 rt_Mac_create :: cx_tb
abbrev b_Mac_endSelf : ByteArray := prog_6_method_22_code
def y_Mac_endSelf : MethodName := ⟨"GasLedger$Machine", "endSelf", "(LGasLedger$Frame;)V"⟩
abbrev rt_Mac_endSelf : Option FieldType := (Option.none : Option FieldType)
theorem cd_Mac_endSelf : Cond.code y_Mac_endSelf b_Mac_endSelf 3 rt_Mac_endSelf ∈ cx_tb := gx_tb (c := (Jvm.Cond.code ({ cls := "GasLedger$Machine", name := "endSelf", desc := "(LGasLedger$Frame;)V" } : Jvm.MethodName) prog_6_method_22_code (3 : Nat) (Option.none : Option Jvm.ClassFile.FieldType))) 480 (by decide +kernel) (by decide +kernel)
abbrev w_Mac_endSelf : List Cond := Cond.code y_Mac_endSelf b_Mac_endSelf 3 rt_Mac_endSelf :: cx_tb
abbrev b_Rec_init : ByteArray := prog_7_method_1_code
def y_Rec_init : MethodName := ⟨"GasLedger$Receipts", "<init>", "()V"⟩
abbrev rt_Rec_init : Option FieldType := (Option.none : Option FieldType)
theorem cd_Rec_init : Cond.code y_Rec_init b_Rec_init 1 rt_Rec_init ∈ cx_tb := gx_tb (c := (Jvm.Cond.code ({ cls := "GasLedger$Receipts", name := "<init>", desc := "()V" } : Jvm.MethodName) prog_7_method_1_code (1 : Nat) (Option.none : Option Jvm.ClassFile.FieldType))) 229 (by decide +kernel) (by decide +kernel)
abbrev w_Rec_init : List Cond := Cond.code y_Rec_init b_Rec_init 1 rt_Rec_init :: cx_tb
abbrev b_Rec_add : ByteArray := prog_7_method_2_code
def y_Rec_add : MethodName := ⟨"GasLedger$Receipts", "add", "(IIII)V"⟩
abbrev rt_Rec_add : Option FieldType := (Option.none : Option FieldType)
theorem cd_Rec_add : Cond.code y_Rec_add b_Rec_add 5 rt_Rec_add ∈ cx_tb := gx_tb (c := (Jvm.Cond.code ({ cls := "GasLedger$Receipts", name := "add", desc := "(IIII)V" } : Jvm.MethodName) prog_7_method_2_code (5 : Nat) (Option.none : Option Jvm.ClassFile.FieldType))) 513 (by decide +kernel) (by decide +kernel)
abbrev w_Rec_add : List Cond := Cond.code y_Rec_add b_Rec_add 5 rt_Rec_add :: cx_tb
abbrev b_Rec_partOf : ByteArray := prog_7_method_3_code
def y_Rec_partOf : MethodName := ⟨"GasLedger$Receipts", "partOf", "(II)I"⟩
abbrev rt_Rec_partOf : Option FieldType := (Option.some FieldType.int)
theorem cd_Rec_partOf : Cond.code y_Rec_partOf b_Rec_partOf 3 rt_Rec_partOf ∈ cx_tb := gx_tb (c := (Jvm.Cond.code ({ cls := "GasLedger$Receipts", name := "partOf", desc := "(II)I" } : Jvm.MethodName) prog_7_method_3_code (3 : Nat) (Option.some Jvm.ClassFile.FieldType.int))) 582 (by decide +kernel) (by decide +kernel)
abbrev w_Rec_partOf : List Cond := Cond.code y_Rec_partOf b_Rec_partOf 3 rt_Rec_partOf :: cx_tb
end
section
/-! The layout: cell k of a world is of kind cx_kd k (an object of class 0 .. 6, the frames (50), an array of n ints (100 + n), of n booleans (10000 + n)); 99: none. -/
def cx_kl : List Nat := [5, 3, 0, 116, 116, 116, 484, 228, 116, 2, 116, 116, 50, 1, 112, 0, 116, 116, 116, 484, 228, 116, 1, 112, 0, 116, 116, 116, 484, 228, 116, 1, 112, 0, 116, 116, 116, 484, 228, 116, 1, 112, 0, 116, 116, 116, 484, 228, 116, 1, 112, 0, 116, 116, 116, 484, 228, 116, 1, 112, 0, 116, 116, 116, 484, 228, 116, 1, 112, 0, 116, 116, 116, 484, 228, 116, 1, 112, 0, 116, 116, 116, 484, 228, 116, 0, 116, 116, 116, 484, 228, 116, 4, 116, 116, 116, 116]
def cx_kd (k : Nat) : Nat := cx_kl.getD k 99
theorem cx_lt {k c : Nat} (h : cx_kd k = c) (hc : c ≠ 99) : k < 97 := by
  by_cases hk : k < 97
  · exact hk
  · exfalso
    apply hc
    rw [← h]
    unfold cx_kd
    rw [List.getD_eq_getElem?_getD, List.getElem?_eq_none (by show 97 ≤ k; omega)]
    rfl
def mx_kl : List Nat := [6, 676, 676, 164, 612, 612, 108, 108, 108, 108, 108, 108, 108, 108, 196, 4708, 108, 108, 132, 10016, 116, 116]
def mx_kd (k : Nat) : Nat := mx_kl.getD k 99
theorem mx_lt {k c : Nat} (h : mx_kd k = c) (hc : c ≠ 99) : k < 22 := by
  by_cases hk : k < 22
  · exact hk
  · exfalso
    apply hc
    rw [← h]
    unfold mx_kd
    rw [List.getD_eq_getElem?_getD, List.getElem?_eq_none (by show 22 ≤ k; omega)]
    rfl
def cx_sh (cI cR : ClassId) (b k : Nat) (f : Nat → Int32) : va_E := if 100 ≤ cx_kd k then .inl (cI, cx_kd k - 100, .inl f) else match cx_kd k with
  | 0 => .inr (0, [.ref (b + (k + 1)), .ref (b + (k + 2)), .ref (b + (k + 3)), .ref (b + (k + 4)), .ref (b + (k + 5)), .ref (b + (k + 6))])
  | 1 => .inr (1, [.int (f 0), .int (f 1), .int (f 2), .int (f 3), .int (f 4), .int (f 5), .int (f 6), .ref (b + (k + 1)), .int (f 8), .int (f 9), .int (f 10), .int (f 11), .ref (b + (k + 2)), .int (f 13), .int (f 14), .int (f 15), .int (f 16)])
  | 2 => .inr (2, [.ref (b + (k + 1)), .ref (b + (k + 2)), .int (f 2), .int (f 3)])
  | 3 => .inr (3, [.ref (b + (k + 1)), .ref (b + (k + 8)), .ref (b + (k + 11)), .int (f 3), .int (f 4), .int (f 5)])
  | 4 => .inr (4, [.ref (b + (k + 1)), .ref (b + (k + 2)), .ref (b + (k + 3)), .ref (b + (k + 4)), .int (f 4)])
  | 5 => .inr (5, [.ref (b + (k + 1)), .ref (b + (k + 85)), .ref (b + (k + 92)), .int (f 3), .int (f 4), .int (f 5), .int (f 6), .int (f 7), .int (f 8), .int (f 9), .int (f 10), .int (f 11), .int (f 12), .int (f 13)])
  | 50 => .inl (cR, 8, .inr (.inr (.inr (.inr (fun j => some (b + (k + (1 + 9 * j))))))))
  | _ => .inr (99, [])
def mx_sh (cI cZ : ClassId) (b k : Nat) (f : Nat → Int32) : va_E := if 10000 ≤ mx_kd k then .inl (cZ, mx_kd k - 10000, .inl f) else if 100 ≤ mx_kd k then .inl (cI, mx_kd k - 100, .inl f) else match mx_kd k with
  | 6 => .inr (6, [.ref (b + (k + 1)), .ref (b + (k + 2)), .int (f 2), .int (f 3), .int (f 4), .int (f 5), .int (f 6), .int (f 7), .int (f 8), .int (f 9), .int (f 10), .int (f 11), .ref (b + (k + 3)), .int (f 13), .ref (b + (k + 4)), .ref (b + (k + 5)), .int (f 16), .int (f 17), .int (f 18), .int (f 19), .ref (b + (k + 6)), .ref (b + (k + 7)), .ref (b + (k + 8)), .ref (b + (k + 9)), .ref (b + (k + 10)), .ref (b + (k + 11)), .ref (b + (k + 12)), .ref (b + (k + 13)), .ref (b + (k + 14)), .ref (b + (k + 15)), .ref (b + (k + 16)), .ref (b + (k + 17)), .int (f 32), .int (f 33), .int (f 34), .ref (b + (k + 18)), .ref (b + (k + 19)), .ref (b + (k + 20)), .ref (b + (k + 21))])
  | _ => .inr (99, [])
theorem sh_Acc (cI cR : ClassId) (b : Nat) {k : Nat} (h : cx_kd k = 0) (f : Nat → Int32) : cx_sh cI cR b k f = .inr (0, [.ref (b + (k + 1)), .ref (b + (k + 2)), .ref (b + (k + 3)), .ref (b + (k + 4)), .ref (b + (k + 5)), .ref (b + (k + 6))]) := by
  unfold cx_sh
  rw [h]
  rfl
theorem to_Acc_balances {k : Nat} (h : cx_kd k = 0) : cx_kd (k + 1) = 116 := (by decide +kernel : ∀ k, k < 97 → cx_kd k = 0 → cx_kd (k + 1) = 116) k (cx_lt h (by decide)) h
theorem to_Acc_nonces {k : Nat} (h : cx_kd k = 0) : cx_kd (k + 2) = 116 := (by decide +kernel : ∀ k, k < 97 → cx_kd k = 0 → cx_kd (k + 2) = 116) k (cx_lt h (by decide)) h
theorem to_Acc_sizes {k : Nat} (h : cx_kd k = 0) : cx_kd (k + 3) = 116 := (by decide +kernel : ∀ k, k < 97 → cx_kd k = 0 → cx_kd (k + 3) = 116) k (cx_lt h (by decide)) h
theorem to_Acc_words {k : Nat} (h : cx_kd k = 0) : cx_kd (k + 4) = 484 := (by decide +kernel : ∀ k, k < 97 → cx_kd k = 0 → cx_kd (k + 4) = 484) k (cx_lt h (by decide)) h
theorem to_Acc_slots {k : Nat} (h : cx_kd k = 0) : cx_kd (k + 5) = 228 := (by decide +kernel : ∀ k, k < 97 → cx_kd k = 0 → cx_kd (k + 5) = 228) k (cx_lt h (by decide)) h
theorem to_Acc_values {k : Nat} (h : cx_kd k = 0) : cx_kd (k + 6) = 116 := (by decide +kernel : ∀ k, k < 97 → cx_kd k = 0 → cx_kd (k + 6) = 116) k (cx_lt h (by decide)) h
theorem sh_Frm (cI cR : ClassId) (b : Nat) {k : Nat} (h : cx_kd k = 1) (f : Nat → Int32) : cx_sh cI cR b k f = .inr (1, [.int (f 0), .int (f 1), .int (f 2), .int (f 3), .int (f 4), .int (f 5), .int (f 6), .ref (b + (k + 1)), .int (f 8), .int (f 9), .int (f 10), .int (f 11), .ref (b + (k + 2)), .int (f 13), .int (f 14), .int (f 15), .int (f 16)]) := by
  unfold cx_sh
  rw [h]
  rfl
theorem to_Frm_stack {k : Nat} (h : cx_kd k = 1) : cx_kd (k + 1) = 112 := (by decide +kernel : ∀ k, k < 97 → cx_kd k = 1 → cx_kd (k + 1) = 112) k (cx_lt h (by decide)) h
theorem to_Frm_accountsBefore {k : Nat} (h : cx_kd k = 1) : cx_kd (k + 2) = 0 := (by decide +kernel : ∀ k, k < 97 → cx_kd k = 1 → cx_kd (k + 2) = 0) k (cx_lt h (by decide)) h
theorem sh_Log (cI cR : ClassId) (b : Nat) {k : Nat} (h : cx_kd k = 2) (f : Nat → Int32) : cx_sh cI cR b k f = .inr (2, [.ref (b + (k + 1)), .ref (b + (k + 2)), .int (f 2), .int (f 3)]) := by
  unfold cx_sh
  rw [h]
  rfl
theorem to_Log_accounts {k : Nat} (h : cx_kd k = 2) : cx_kd (k + 1) = 116 := (by decide +kernel : ∀ k, k < 97 → cx_kd k = 2 → cx_kd (k + 1) = 116) k (cx_lt h (by decide)) h
theorem to_Log_numbers {k : Nat} (h : cx_kd k = 2) : cx_kd (k + 2) = 116 := (by decide +kernel : ∀ k, k < 97 → cx_kd k = 2 → cx_kd (k + 2) = 116) k (cx_lt h (by decide)) h
theorem sh_Mac (cI cR : ClassId) (b : Nat) {k : Nat} (h : cx_kd k = 3) (f : Nat → Int32) : cx_sh cI cR b k f = .inr (3, [.ref (b + (k + 1)), .ref (b + (k + 8)), .ref (b + (k + 11)), .int (f 3), .int (f 4), .int (f 5)]) := by
  unfold cx_sh
  rw [h]
  rfl
theorem to_Mac_accounts {k : Nat} (h : cx_kd k = 3) : cx_kd (k + 1) = 0 := (by decide +kernel : ∀ k, k < 97 → cx_kd k = 3 → cx_kd (k + 1) = 0) k (cx_lt h (by decide)) h
theorem to_Mac_logs {k : Nat} (h : cx_kd k = 3) : cx_kd (k + 8) = 2 := (by decide +kernel : ∀ k, k < 97 → cx_kd k = 3 → cx_kd (k + 8) = 2) k (cx_lt h (by decide)) h
theorem to_Mac_frames {k : Nat} (h : cx_kd k = 3) : cx_kd (k + 11) = 50 := (by decide +kernel : ∀ k, k < 97 → cx_kd k = 3 → cx_kd (k + 11) = 50) k (cx_lt h (by decide)) h
theorem sh_Rec (cI cR : ClassId) (b : Nat) {k : Nat} (h : cx_kd k = 4) (f : Nat → Int32) : cx_sh cI cR b k f = .inr (4, [.ref (b + (k + 1)), .ref (b + (k + 2)), .ref (b + (k + 3)), .ref (b + (k + 4)), .int (f 4)]) := by
  unfold cx_sh
  rw [h]
  rfl
theorem to_Rec_statuses {k : Nat} (h : cx_kd k = 4) : cx_kd (k + 1) = 116 := (by decide +kernel : ∀ k, k < 97 → cx_kd k = 4 → cx_kd (k + 1) = 116) k (cx_lt h (by decide)) h
theorem to_Rec_usedGas {k : Nat} (h : cx_kd k = 4) : cx_kd (k + 2) = 116 := (by decide +kernel : ∀ k, k < 97 → cx_kd k = 4 → cx_kd (k + 2) = 116) k (cx_lt h (by decide)) h
theorem to_Rec_outputs {k : Nat} (h : cx_kd k = 4) : cx_kd (k + 3) = 116 := (by decide +kernel : ∀ k, k < 97 → cx_kd k = 4 → cx_kd (k + 3) = 116) k (cx_lt h (by decide)) h
theorem to_Rec_logCounts {k : Nat} (h : cx_kd k = 4) : cx_kd (k + 4) = 116 := (by decide +kernel : ∀ k, k < 97 → cx_kd k = 4 → cx_kd (k + 4) = 116) k (cx_lt h (by decide)) h
theorem sh_Led (cI cR : ClassId) (b : Nat) {k : Nat} (h : cx_kd k = 5) (f : Nat → Int32) : cx_sh cI cR b k f = .inr (5, [.ref (b + (k + 1)), .ref (b + (k + 85)), .ref (b + (k + 92)), .int (f 3), .int (f 4), .int (f 5), .int (f 6), .int (f 7), .int (f 8), .int (f 9), .int (f 10), .int (f 11), .int (f 12), .int (f 13)]) := by
  unfold cx_sh
  rw [h]
  rfl
theorem to_Led_machine {k : Nat} (h : cx_kd k = 5) : cx_kd (k + 1) = 3 := (by decide +kernel : ∀ k, k < 97 → cx_kd k = 5 → cx_kd (k + 1) = 3) k (cx_lt h (by decide)) h
theorem to_Led_atBegin {k : Nat} (h : cx_kd k = 5) : cx_kd (k + 85) = 0 := (by decide +kernel : ∀ k, k < 97 → cx_kd k = 5 → cx_kd (k + 85) = 0) k (cx_lt h (by decide)) h
theorem to_Led_receipts {k : Nat} (h : cx_kd k = 5) : cx_kd (k + 92) = 4 := (by decide +kernel : ∀ k, k < 97 → cx_kd k = 5 → cx_kd (k + 92) = 4) k (cx_lt h (by decide)) h
theorem sh_Mod (cI cZ : ClassId) (b : Nat) {k : Nat} (h : mx_kd k = 6) (f : Nat → Int32) : mx_sh cI cZ b k f = .inr (6, [.ref (b + (k + 1)), .ref (b + (k + 2)), .int (f 2), .int (f 3), .int (f 4), .int (f 5), .int (f 6), .int (f 7), .int (f 8), .int (f 9), .int (f 10), .int (f 11), .ref (b + (k + 3)), .int (f 13), .ref (b + (k + 4)), .ref (b + (k + 5)), .int (f 16), .int (f 17), .int (f 18), .int (f 19), .ref (b + (k + 6)), .ref (b + (k + 7)), .ref (b + (k + 8)), .ref (b + (k + 9)), .ref (b + (k + 10)), .ref (b + (k + 11)), .ref (b + (k + 12)), .ref (b + (k + 13)), .ref (b + (k + 14)), .ref (b + (k + 15)), .ref (b + (k + 16)), .ref (b + (k + 17)), .int (f 32), .int (f 33), .int (f 34), .ref (b + (k + 18)), .ref (b + (k + 19)), .ref (b + (k + 20)), .ref (b + (k + 21))]) := by
  unfold mx_sh
  rw [h]
  rfl
theorem to_Mod_now {k : Nat} (h : mx_kd k = 6) : mx_kd (k + 1) = 676 := (by decide +kernel : ∀ k, k < 22 → mx_kd k = 6 → mx_kd (k + 1) = 676) k (mx_lt h (by decide)) h
theorem to_Mod_before {k : Nat} (h : mx_kd k = 6) : mx_kd (k + 2) = 676 := (by decide +kernel : ∀ k, k < 22 → mx_kd k = 6 → mx_kd (k + 2) = 676) k (mx_lt h (by decide)) h
theorem to_Mod_receipt {k : Nat} (h : mx_kd k = 6) : mx_kd (k + 3) = 164 := (by decide +kernel : ∀ k, k < 22 → mx_kd k = 6 → mx_kd (k + 3) = 164) k (mx_lt h (by decide)) h
theorem to_Mod_logAccount {k : Nat} (h : mx_kd k = 6) : mx_kd (k + 4) = 612 := (by decide +kernel : ∀ k, k < 22 → mx_kd k = 6 → mx_kd (k + 4) = 612) k (mx_lt h (by decide)) h
theorem to_Mod_logNumber {k : Nat} (h : mx_kd k = 6) : mx_kd (k + 5) = 612 := (by decide +kernel : ∀ k, k < 22 → mx_kd k = 6 → mx_kd (k + 5) = 612) k (mx_lt h (by decide)) h
theorem to_Mod_self {k : Nat} (h : mx_kd k = 6) : mx_kd (k + 6) = 108 := (by decide +kernel : ∀ k, k < 22 → mx_kd k = 6 → mx_kd (k + 6) = 108) k (mx_lt h (by decide)) h
theorem to_Mod_runs {k : Nat} (h : mx_kd k = 6) : mx_kd (k + 7) = 108 := (by decide +kernel : ∀ k, k < 22 → mx_kd k = 6 → mx_kd (k + 7) = 108) k (mx_lt h (by decide)) h
theorem to_Mod_place {k : Nat} (h : mx_kd k = 6) : mx_kd (k + 8) = 108 := (by decide +kernel : ∀ k, k < 22 → mx_kd k = 6 → mx_kd (k + 8) = 108) k (mx_lt h (by decide)) h
theorem to_Mod_caller {k : Nat} (h : mx_kd k = 6) : mx_kd (k + 9) = 108 := (by decide +kernel : ∀ k, k < 22 → mx_kd k = 6 → mx_kd (k + 9) = 108) k (mx_lt h (by decide)) h
theorem to_Mod_value {k : Nat} (h : mx_kd k = 6) : mx_kd (k + 10) = 108 := (by decide +kernel : ∀ k, k < 22 → mx_kd k = 6 → mx_kd (k + 10) = 108) k (mx_lt h (by decide)) h
theorem to_Mod_input {k : Nat} (h : mx_kd k = 6) : mx_kd (k + 11) = 108 := (by decide +kernel : ∀ k, k < 22 → mx_kd k = 6 → mx_kd (k + 11) = 108) k (mx_lt h (by decide)) h
theorem to_Mod_gas {k : Nat} (h : mx_kd k = 6) : mx_kd (k + 12) = 108 := (by decide +kernel : ∀ k, k < 22 → mx_kd k = 6 → mx_kd (k + 12) = 108) k (mx_lt h (by decide)) h
theorem to_Mod_size {k : Nat} (h : mx_kd k = 6) : mx_kd (k + 13) = 108 := (by decide +kernel : ∀ k, k < 22 → mx_kd k = 6 → mx_kd (k + 13) = 108) k (mx_lt h (by decide)) h
theorem to_Mod_stack {k : Nat} (h : mx_kd k = 6) : mx_kd (k + 14) = 196 := (by decide +kernel : ∀ k, k < 22 → mx_kd k = 6 → mx_kd (k + 14) = 196) k (mx_lt h (by decide)) h
theorem to_Mod_copies {k : Nat} (h : mx_kd k = 6) : mx_kd (k + 15) = 4708 := (by decide +kernel : ∀ k, k < 22 → mx_kd k = 6 → mx_kd (k + 15) = 4708) k (mx_lt h (by decide)) h
theorem to_Mod_refunds {k : Nat} (h : mx_kd k = 6) : mx_kd (k + 16) = 108 := (by decide +kernel : ∀ k, k < 22 → mx_kd k = 6 → mx_kd (k + 16) = 108) k (mx_lt h (by decide)) h
theorem to_Mod_logsThen {k : Nat} (h : mx_kd k = 6) : mx_kd (k + 17) = 108 := (by decide +kernel : ∀ k, k < 22 → mx_kd k = 6 → mx_kd (k + 17) = 108) k (mx_lt h (by decide)) h
theorem to_Mod_node {k : Nat} (h : mx_kd k = 6) : mx_kd (k + 18) = 132 := (by decide +kernel : ∀ k, k < 22 → mx_kd k = 6 → mx_kd (k + 18) = 132) k (mx_lt h (by decide)) h
theorem to_Mod_has {k : Nat} (h : mx_kd k = 6) : mx_kd (k + 19) = 10016 := (by decide +kernel : ∀ k, k < 22 → mx_kd k = 6 → mx_kd (k + 19) = 10016) k (mx_lt h (by decide)) h
theorem to_Mod_worth {k : Nat} (h : mx_kd k = 6) : mx_kd (k + 20) = 116 := (by decide +kernel : ∀ k, k < 22 → mx_kd k = 6 → mx_kd (k + 20) = 116) k (mx_lt h (by decide)) h
theorem to_Mod_values {k : Nat} (h : mx_kd k = 6) : mx_kd (k + 21) = 116 := (by decide +kernel : ∀ k, k < 22 → mx_kd k = 6 → mx_kd (k + 21) = 116) k (mx_lt h (by decide)) h
theorem sh_frames (cI cR : ClassId) (b : Nat) {k : Nat} (h : cx_kd k = 50) (f : Nat → Int32) : cx_sh cI cR b k f = .inl (cR, 8, .inr (.inr (.inr (.inr (fun j => some (b + (k + (1 + 9 * j)))))))) := by
  unfold cx_sh
  rw [h]
  rfl
theorem to_frame {k i : Nat} (h : cx_kd k = 50) (hi : i < 8) : cx_kd (k + (1 + 9 * i)) = 1 := (by decide +kernel : ∀ k, k < 97 → cx_kd k = 50 → ∀ i, i < 8 → cx_kd (k + (1 + 9 * i)) = 1) k (cx_lt h (by decide)) h i hi
theorem sh_arr (cI cR : ClassId) (b : Nat) {k n : Nat} (h : cx_kd k = 100 + n) (f : Nat → Int32) : cx_sh cI cR b k f = .inl (cI, n, .inl f) := by
  unfold cx_sh
  rw [h, if_pos (by omega), Nat.add_sub_cancel_left]
theorem sh_arrP (cI cR : ClassId) (b : Nat) {k : Nat} (h : 100 ≤ cx_kd k) (f : Nat → Int32) : cx_sh cI cR b k f = .inl (cI, cx_kd k - 100, .inl f) := by
  unfold cx_sh
  rw [if_pos h]
theorem mh_arr (cI cZ : ClassId) (b : Nat) {k n : Nat} (h : mx_kd k = 100 + n) (hn : n < 9900) (f : Nat → Int32) : mx_sh cI cZ b k f = .inl (cI, n, .inl f) := by
  unfold mx_sh
  rw [h, if_neg (by omega), if_pos (by omega), Nat.add_sub_cancel_left]
theorem mh_arrZ (cI cZ : ClassId) (b : Nat) {k n : Nat} (h : mx_kd k = 10000 + n) (f : Nat → Int32) : mx_sh cI cZ b k f = .inl (cZ, n, .inl f) := by
  unfold mx_sh
  rw [h, if_pos (by omega), Nat.add_sub_cancel_left]
def cx_prices (j : Nat) : Int32 := ([0, 1, 1, 1, 1, 1, 1, 2, 2, 1, 1, 1, 3, 4, 10, 10, 10, 1, 1, 1, 1, 1, 30, 30, 60, 12, 0, 0, 20, 0, 0, 0] : List Int32).getD j 0
def cx_needs (j : Nat) : Int32 := ([0, 0, 1, 0, 0, 2, 2, 2, 2, 2, 2, 1, 1, 2, 1, 2, 1, 0, 0, 0, 0, 0, 4, 3, 3, 1, 1, 1, 1, 13, 13, 13] : List Int32).getD j 0
def cx_X (b tP tN : Nat) (s : State) : Prop := va_Z "GasLedger$Machine" "PRICES" "[I" (.ref tP) (gx_A b 97) s s.heap ∧ va_T .int tP 32 (fun j => .int (cx_prices j)) (gx_A b 97) s s.heap ∧ va_Z "GasLedger$Machine" "NEEDS" "[I" (.ref tN) (gx_A b 97) s s.heap ∧ va_T .int tN 32 (fun j => .int (cx_needs j)) (gx_A b 97) s s.heap
theorem cx_XX (b tP tN : Nat) : gx_X b 97 (cx_X b tP tN) := by
  constructor
  · intro s U H locs hX hS hU hv
    obtain ⟨h1, h2, h3, h4⟩ := hX
    have hk : ∀ a : Nat, a < s.heap.size → ¬ gx_A b 97 a → U.heap[a]? = s.heap[a]? := fun a ha hA => by rw [hU]; exact hS.2.1 a ha hA
    exact ⟨(h1.kept hk).moved hv, (h2.kept hk).moved hv, (h3.kept hk).moved hv, (h4.kept hk).moved hv⟩
  · intro a U g mk hX
    obtain ⟨h1, h2, h3, h4⟩ := hX
    exact ⟨h1.moved (U := U.calling g mk a) (Vm.Alike.refl U.vm), h2.moved (U := U.calling g mk a) (Vm.Alike.refl U.vm), h3.moved (U := U.calling g mk a) (Vm.Alike.refl U.vm), h4.moved (U := U.calling g mk a) (Vm.Alike.refl U.vm)⟩
def mx_X (s : State) : Prop := s = s
theorem mx_XX (b : Nat) : gx_X b 22 mx_X := ⟨fun _ _ _ _ _ _ _ _ => rfl, fun _ _ _ _ _ => rfl⟩
abbrev gx_ty (cI cR cZ : ClassId) : List (ClassId × FieldType) := [(cI, .int), (cR, .object "GasLedger$Frame"), (cZ, .boolean)]
abbrev cx_C (l : Launch) (dC : Nat → ClassId) (dI : Nat → Nat → Nat) (cI cR cZ : ClassId) (b tP tN : Nat) (y : MethodName) (w : List Cond) (rm : Room) (av : List Value) (V : gx_M) (r : Option Value) (V' : gx_M) : Prop := gx_C l y w rm (dC, dI) cx_cl (gx_ty cI cR cZ) b 97 (cx_sh cI cR b) (cx_X b tP tN) av V r V'
abbrev mx_C (l : Launch) (dC : Nat → ClassId) (dI : Nat → Nat → Nat) (cI cR cZ : ClassId) (b tP tN : Nat) (y : MethodName) (w : List Cond) (rm : Room) (av : List Value) (V : gx_M) (r : Option Value) (V' : gx_M) : Prop := gx_C l y w rm (dC, dI) cx_cl (gx_ty cI cR cZ) b 22 (mx_sh cI cZ b) mx_X av V r V'
/-! helpers of the walks -/
abbrev gx_ib (i : Int32) (n : Nat) : Prop := ¬ (i < 0 ∨ n ≤ i.toNatClampNeg)
theorem gx_pos {α : Type} {c : Prop} {d : Decidable c} {t e r : α} (hc : c) (h : @ite α c d t e = r) : t = r := by rw [if_pos hc] at h; exact h
theorem gx_neg {α : Type} {c : Prop} {d : Decidable c} {t e r : α} (hc : ¬ c) (h : @ite α c d t e = r) : e = r := by rw [if_neg hc] at h; exact h
theorem gx_if {α : Type} {c : Prop} {d : Decidable c} {t : Option α} {r : α} (h : @ite (Option α) c d t none = some r) : c ∧ t = some r := by
  by_cases hc : c
  · exact ⟨hc, gx_pos hc h⟩
  · exact absurd (gx_neg hc h) (by simp)
theorem gx_bd {α β : Type} {o : Option α} {f : α → Option β} {r : β} (h : o.bind f = some r) : ∃ q, o = some q ∧ f q = some r := by
  cases o with
  | none => cases h
  | some q => exact ⟨q, rfl, h⟩
theorem gx_inc {x a c : Int32} (h : a = c) : x + a = x + c := by rw [h]
theorem gx_nz {x : Int32} (h : x = 0 ∨ x = 1) : narrow .boolean (.int x) = .int x := by
  rcases h with rfl | rfl <;> rfl
theorem gx_fz {x : Int32} (h : x = 0 ∨ x = 1) : fits .boolean (.int x) = true := by
  rcases h with rfl | rfl <;> rfl
theorem gx_ne {x c : Int32} {n : Int} (h : ¬ x = c) (hn : c.toInt = n) : x.toInt ≠ n := fun e => h (Int32.toInt_inj.mp (e.trans hn.symm))
theorem gx_ilt {i : Int32} {n : Nat} (h : gx_ib i n) : i.toNatClampNeg < n := Nat.not_le.mp fun q => h (Or.inr q)
section GY
variable {p : Program} {l : Launch} {e : Env} {R : Room} {s : State} {m : MethodId} {args : Array Value} {below : List Frame} {meth : Method} {c : Code} {H : Heap} {locs : List Loc} {cells slots : Nat} {Q : State → Prop}
variable {cc : ByteArray} {pc : Nat} {ls : Array Slot} {rest st0 : List Value} {D : va_G} {cl : List vw_C} {tys : List (ClassId × FieldType)} {H0 : Heap} {b N : Nat} {sh : Nat → (Nat → Int32) → va_E} {V V' V2 : gx_M} {X : State → Prop}
theorem gx_asi (hexec : p.tables.exec = Jvm.exec) (hb : c.code = cc) (hK : va_K D cl tys s) (hP : va_P D cl (gx_w b N (gx_v sh V)) H) (hS : va_S (gx_A b N) H0 H locs) (k0 t0 : Nat) (hk0 : k0 < N) {cA : ClassId} {n : Nat} (he : ∀ f, sh k0 f = .inl (cA, n, .inl f)) (ht : tys[t0]? = some (cA, .int)) {i x : Int32} (hin : gx_ib i n) (hdg : decode cc pc = .ok (.iastore, 1))
    (kk : ∀ (H1 : Heap) (locs1 : List Loc), va_P D cl (gx_w b N (gx_v sh (gx_u V k0 i.toNatClampNeg x))) H1 → va_S (gx_A b N) H0 H1 locs1 → W p l e R s m args below meth c H1 locs1 cells slots Q (F0 m (pc + 1) ls rest)) : W p l e R s m args below meth c H locs cells slots Q (F0 m pc ls (.int x :: .int i :: .ref (b + k0) :: rest)) := by
  refine va_iast hexec hb hK hP gx_D hS k0 t0 (gx_at hk0 (he _)) ht hin hdg (fun H1 locs1 hP1 _ hS1 => kk H1 locs1 ?_ hS1)
  rw [gx_set, ← he, gx_vset] at hP1
  exact hP1
theorem gx_asz (hexec : p.tables.exec = Jvm.exec) (hb : c.code = cc) (hK : va_K D cl tys s) (hP : va_P D cl (gx_w b N (gx_v sh V)) H) (hS : va_S (gx_A b N) H0 H locs) (k0 t0 : Nat) (hk0 : k0 < N) {cA : ClassId} {n : Nat} (he : ∀ f, sh k0 f = .inl (cA, n, .inl f)) (ht : tys[t0]? = some (cA, .boolean)) {i x : Int32} (hin : gx_ib i n) (hdg : decode cc pc = .ok (.bastore, 1))
    (kk : ∀ (H1 : Heap) (locs1 : List Loc), va_P D cl (gx_w b N (gx_v sh (gx_u V k0 i.toNatClampNeg (vp_nar .boolean x)))) H1 → va_S (gx_A b N) H0 H1 locs1 → W p l e R s m args below meth c H1 locs1 cells slots Q (F0 m (pc + 1) ls rest)) : W p l e R s m args below meth c H locs cells slots Q (F0 m pc ls (.int x :: .int i :: .ref (b + k0) :: rest)) := by
  refine va_zast hexec hb hK hP gx_D hS k0 t0 (gx_at hk0 (he _)) ht hin hdg (fun H1 locs1 hP1 _ hS1 => kk H1 locs1 ?_ hS1)
  rw [gx_set, ← he, gx_vset] at hP1
  exact hP1
theorem gx_copy {a0 : Nat} (hexec : p.tables.exec = Jvm.exec) (hb : c.code = cc) (hml : c.maxLocals = ls.size) {own : String} {index : Nat} (hown : s.vm.findClass own = some m.cls) (hlink : (Cond.methodLink own index arraycopyName).before args s = true) (hnat : (Cond.native arraycopyName).before args s = true) (hstat : (Cond.static arraycopyName).before args s = true) (hini : (Cond.initialized "java/lang/System").before args s = true)
    (hK : va_K D cl tys s) (hP : va_P D cl (gx_w b N (gx_v sh V)) H) (hS : va_S (gx_A b N) H0 H locs) (k0 k1 t0 : Nat) (hk0 : k0 < N) (hk1 : k1 < N) {cA : ClassId} {n0 n1 : Nat} (he0 : ∀ f, sh k0 f = .inl (cA, n0, .inl f)) (he1 : ∀ f, sh k1 f = .inl (cA, n1, .inl f)) (ht : tys[t0]? = some (cA, .int)) {n : Int32} {nn : Nat} (hn : ¬ n < 0) (hnn : n.toNatClampNeg = nn) (h0 : nn ≤ n0) (h1 : nn ≤ n1)
    (hframes : 1 ≤ R.frames) (hlocals : (rest.map fun v => v.category).sum + (nativeFrameWords "java/lang/System" "arraycopy" 5 + 11) ≤ R.locals) (hdg : decode cc pc = .ok (.invokestatic index, 3))
    (kk : ∀ (H1 : Heap) (locs1 : List Loc), va_P D cl (gx_w b N (gx_v sh (va_up V k1 (va_cpy (V k0) (V k1) 0 0 nn)))) H1 → va_S (gx_A b N) H0 H1 locs1 → W p l e R s m args below meth c H1 locs1 cells slots Q (F0 m (pc + 3) ls rest)) : W p l e R s m args below meth c H locs cells slots Q (F0 m pc ls (.int n :: .int 0 :: .ref (b + k1) :: .int 0 :: .ref (b + k0) :: rest)) := by
  subst hnn
  refine va_copyi hexec hb hml hown hlink hnat hstat hini hK hP gx_D hS k0 k1 t0 t0 (gx_at hk0 (he0 _)) (gx_at hk1 (he1 _)) ht ht rfl (by decide) (by decide) hn (by show 0 + _ ≤ _; omega) (by show 0 + _ ≤ _; omega) (fun _ _ => rfl) hframes hlocals hdg (fun H1 locs1 hP1 _ hS1 => kk H1 locs1 ?_ hS1)
  rw [gx_set, ← he1, gx_vset] at hP1
  exact hP1
theorem gx_cw {own C : String} {index maxL : Nat} {y : MethodName} {bytes : ByteArray} {ret : Option FieldType} {rm : Room} (n : Nat) (hts : ∀ w ∈ cx_tb, w.before args s = true) (hcode : Cond.code y bytes maxL ret ∈ cx_tb) (hini : Cond.initialized y.cls ∈ cx_tb) (hlink : Cond.methodLink own index y ∈ cx_tb) (hinst : Cond.instanceMethod y ∈ cx_tb) (hsel : Cond.selects C y y ∈ cx_tb) (hrc : rm.cells = 0) (hrs : rm.slots = 0)
    (hd : y.cls ≠ "java/lang/invoke/MethodHandle" ∧ y.cls ≠ "java/lang/invoke/VarHandle" ∧ (parseMethodDescriptor y.desc).map (fun d => d.parameters.length) = some n) (hR : rm.frames + 1 ≤ R.frames ∧ 8 + (maxL + 11) + rm.locals ≤ R.locals) : CallW R s args own C index y bytes maxL ret (Cond.code y bytes maxL ret :: cx_tb) rm 0 0 n :=
  ⟨callB_of n hts (gx_good hcode) rfl hrc hrs (hts _ hini) (hts _ hlink) hd hR, hts _ hinst, hts _ hsel⟩
theorem gx_cs {own : String} {index maxL : Nat} {y : MethodName} {bytes : ByteArray} {ret : Option FieldType} {rm : Room} (n : Nat) (hts : ∀ w ∈ cx_tb, w.before args s = true) (hcode : Cond.code y bytes maxL ret ∈ cx_tb) (hini : Cond.initialized y.cls ∈ cx_tb) (hlink : Cond.methodLink own index y ∈ cx_tb) (hst : Cond.static y ∈ cx_tb) (hrc : rm.cells = 0) (hrs : rm.slots = 0)
    (hd : y.cls ≠ "java/lang/invoke/MethodHandle" ∧ y.cls ≠ "java/lang/invoke/VarHandle" ∧ (parseMethodDescriptor y.desc).map (fun d => d.parameters.length) = some n) (hR : rm.frames + 1 ≤ R.frames ∧ 8 + (maxL + 11) + rm.locals ≤ R.locals) : CallB R s args own index y bytes maxL ret (Cond.code y bytes maxL ret :: cx_tb) rm 0 0 n ∧ (Cond.static y).before args s = true :=
  ⟨callB_of n hts (gx_good hcode) rfl hrc hrs (hts _ hini) (hts _ hlink) hd hR, hts _ hst⟩
theorem gx_cn {own host : String} {index maxL : Nat} {y : MethodName} {bytes : ByteArray} {ret : Option FieldType} {rm : Room} (n : Nat) (hts : ∀ w ∈ cx_tb, w.before args s = true) (hcode : Cond.code y bytes maxL ret ∈ cx_tb) (hini : Cond.initialized y.cls ∈ cx_tb) (hlink : Cond.methodLinkNest own index y host ∈ cx_tb) (hst : Cond.static y ∈ cx_tb) (hrc : rm.cells = 0) (hrs : rm.slots = 0)
    (hd : y.cls ≠ "java/lang/invoke/MethodHandle" ∧ y.cls ≠ "java/lang/invoke/VarHandle" ∧ (parseMethodDescriptor y.desc).map (fun d => d.parameters.length) = some n) (hR : rm.frames + 1 ≤ R.frames ∧ 8 + (maxL + 11) + rm.locals ≤ R.locals) : va_CN R s args own index y host bytes maxL ret (Cond.code y bytes maxL ret :: cx_tb) rm 0 0 n ∧ (Cond.static y).before args s = true ∧ True := by
  refine ⟨?_, hts _ hst, trivial⟩
  have hc : Cond.code y bytes maxL ret ∈ Cond.code y bytes maxL ret :: cx_tb := List.mem_cons_self
  refine ⟨⟨hrc, hrs, hR.1, hR.2, pay_in hts (gx_good hcode), hc⟩, hts _ hcode, hts _ hini, ⟨hd.1, hd.2.1⟩, fun sig h => ?_, hts _ hlink⟩
  have h2 := hd.2.2
  rw [h] at h2
  exact (Option.some.inj h2).symm
theorem gx_ci {r : Int32} {a : Array Value} (hr : va_Run p l e R s m args below meth c H locs cells slots 0 0 (F0 m pc ls st0) rest (gx_Q D cl b N sh (some (.int r)) V' a) (gx_A b N)) (hS : va_S (gx_A b N) H0 H locs)
    (kk : ∀ (H1 : Heap) (locs1 : List Loc), va_P D cl (gx_w b N (gx_v sh V')) H1 → va_S (gx_A b N) H0 H1 locs1 → W p l e R s m args below meth c H1 locs1 cells slots Q (F0 m (pc + 3) ls (.int r :: rest))) : W p l e R s m args below meth c H locs cells slots Q (F0 m pc ls st0) :=
  gx_call hr hS (fun _ h => h) (fun H1 locs1 h1 h2 _ _ => kk H1 locs1 h1 h2)
theorem gx_cv {a : Array Value} (hr : va_Run p l e R s m args below meth c H locs cells slots 0 0 (F0 m pc ls st0) rest (gx_Q D cl b N sh none V' a) (gx_A b N)) (hS : va_S (gx_A b N) H0 H locs)
    (kk : ∀ (H1 : Heap) (locs1 : List Loc), va_P D cl (gx_w b N (gx_v sh V')) H1 → va_S (gx_A b N) H0 H1 locs1 → W p l e R s m args below meth c H1 locs1 cells slots Q (F0 m (pc + 3) ls rest)) : W p l e R s m args below meth c H locs cells slots Q (F0 m pc ls st0) :=
  gx_call hr hS (fun _ h => h) (fun H1 locs1 h1 h2 _ _ => kk H1 locs1 h1 h2)
theorem gx_cr {r : Nat} {a : Array Value} (hr : va_Run p l e R s m args below meth c H locs cells slots 0 0 (F0 m pc ls st0) rest (gx_Q D cl b N sh (some (.ref (b + r))) V' a) (gx_A b N)) (hS : va_S (gx_A b N) H0 H locs)
    (kk : ∀ (H1 : Heap) (locs1 : List Loc), va_P D cl (gx_w b N (gx_v sh V')) H1 → va_S (gx_A b N) H0 H1 locs1 → W p l e R s m args below meth c H1 locs1 cells slots Q (F0 m (pc + 3) ls (.ref (b + r) :: rest))) : W p l e R s m args below meth c H locs cells slots Q (F0 m pc ls st0) :=
  gx_call hr hS (fun _ h => h) (fun H1 locs1 h1 h2 _ _ => kk H1 locs1 h1 h2)
theorem gx_aald {cI cR : ClassId} (hexec : p.tables.exec = Jvm.exec) (hb : c.code = cc) (hK : va_K D cl tys s) (hP : va_P D cl (gx_w b 97 (gx_v (cx_sh cI cR b) V)) H) (k0 t0 : Nat) (hk : cx_kd k0 = 50) (ht : tys[t0]? = some (cR, .object "GasLedger$Frame")) {i : Int32} (hin : gx_ib i 8) (hdg : decode cc pc = .ok (.aaload, 1))
    (kk : W p l e R s m args below meth c H locs cells slots Q (F0 m (pc + 1) ls (.ref (b + (k0 + (1 + 9 * i.toNatClampNeg))) :: rest))) : W p l e R s m args below meth c H locs cells slots Q (F0 m pc ls (.int i :: .ref (b + k0) :: rest)) :=
  va_aldq (f := fun j => some (b + (k0 + (1 + 9 * j)))) hexec hb hK hP k0 t0 (gx_at (cx_lt hk (by decide)) (sh_frames cI cR b hk _)) ht hin hdg kk
theorem gx_aret {r : Option Value} {v : Nat} {rt : FieldType} (hexec : p.tables.exec = Jvm.exec) (hb : c.code = cc) (hr : meth.sig.returnType = some rt) (hrt : (∃ n, rt = .object n) ∨ ∃ t, rt = .array t) (hlk : meth.locks = false) (hP : va_P D cl (gx_w b N (gx_v sh V)) H) (hS : va_S (gx_A b N) s.heap H locs) (hdg : decode cc pc = .ok (.areturn, 1)) (hv : some (.ref v) = r) (hV : V = V') :
    W p l e R s m args below meth c H locs cells slots (MQ below (gx_Q D cl b N sh r V') args s cells slots (gx_A b N)) (F0 m pc ls [.ref v]) := by
  subst hv; subst hV
  exact W.aret hexec hb hr hrt (Or.inr ⟨_, rfl⟩) (fun t ht _ => ⟨rfl, by rw [ht]; exact hP, hS.F ht⟩) hS.2.2 hdg
end GY
end
