section
-- ===== PART A: goes FIRST, ahead of the names: the tables' words, and 'selects' of the private methods out of them =====
/-- a private method of a class that the tables say can be made, by its rows of tables_1 -/
def lw_okq (q : MethodName × Nat) : Prop := (q.1.cls ≠ "java/lang/invoke/MethodHandle" ∧ q.1.cls ≠ "java/lang/invoke/VarHandle") ∧ Cond.instantiable q.1.cls q.2 ∈ tables_1 ∧ Cond.privateMethod q.1 ∈ tables_1 ∧ Cond.instanceMethod q.1 ∈ tables_1
theorem lw_p0 : lw_okq (⟨"GasLedger", "refusalOf", "(IIIIII)I"⟩, 14) := ⟨⟨by decide +kernel, by decide +kernel⟩, List.mem_of_getElem? (i := 12) (by decide +kernel), List.mem_of_getElem? (i := 291) (by decide +kernel), List.mem_of_getElem? (i := 292) (by decide +kernel)⟩
theorem lw_p1 : lw_okq (⟨"GasLedger", "perform", "(IIIIII)I"⟩, 14) := ⟨⟨by decide +kernel, by decide +kernel⟩, List.mem_of_getElem? (i := 12) (by decide +kernel), List.mem_of_getElem? (i := 295) (by decide +kernel), List.mem_of_getElem? (i := 296) (by decide +kernel)⟩
theorem lw_p2 : lw_okq (⟨"GasLedger$Machine", "enter", "(IIIIII)V"⟩, 6) := ⟨⟨by decide +kernel, by decide +kernel⟩, List.mem_of_getElem? (i := 20) (by decide +kernel), List.mem_of_getElem? (i := 303) (by decide +kernel), List.mem_of_getElem? (i := 304) (by decide +kernel)⟩
theorem lw_p3 : lw_okq (⟨"GasLedger$Machine", "step", "(LGasLedger$Frame;)V"⟩, 6) := ⟨⟨by decide +kernel, by decide +kernel⟩, List.mem_of_getElem? (i := 20) (by decide +kernel), List.mem_of_getElem? (i := 317) (by decide +kernel), List.mem_of_getElem? (i := 318) (by decide +kernel)⟩
theorem lw_p4 : lw_okq (⟨"GasLedger$Machine", "priceOf", "(LGasLedger$Frame;I)I"⟩, 6) := ⟨⟨by decide +kernel, by decide +kernel⟩, List.mem_of_getElem? (i := 20) (by decide +kernel), List.mem_of_getElem? (i := 326) (by decide +kernel), List.mem_of_getElem? (i := 327) (by decide +kernel)⟩
theorem lw_p5 : lw_okq (⟨"GasLedger$Machine", "jump", "(LGasLedger$Frame;I)V"⟩, 6) := ⟨⟨by decide +kernel, by decide +kernel⟩, List.mem_of_getElem? (i := 20) (by decide +kernel), List.mem_of_getElem? (i := 372) (by decide +kernel), List.mem_of_getElem? (i := 373) (by decide +kernel)⟩
theorem lw_p6 : lw_okq (⟨"GasLedger$Machine", "jumpIf", "(LGasLedger$Frame;)V"⟩, 6) := ⟨⟨by decide +kernel, by decide +kernel⟩, List.mem_of_getElem? (i := 20) (by decide +kernel), List.mem_of_getElem? (i := 376) (by decide +kernel), List.mem_of_getElem? (i := 377) (by decide +kernel)⟩
theorem lw_p7 : lw_okq (⟨"GasLedger$Machine", "store", "(LGasLedger$Frame;)V"⟩, 6) := ⟨⟨by decide +kernel, by decide +kernel⟩, List.mem_of_getElem? (i := 20) (by decide +kernel), List.mem_of_getElem? (i := 380) (by decide +kernel), List.mem_of_getElem? (i := 381) (by decide +kernel)⟩
theorem lw_p8 : lw_okq (⟨"GasLedger$Machine", "callOther", "(LGasLedger$Frame;)V"⟩, 6) := ⟨⟨by decide +kernel, by decide +kernel⟩, List.mem_of_getElem? (i := 20) (by decide +kernel), List.mem_of_getElem? (i := 385) (by decide +kernel), List.mem_of_getElem? (i := 386) (by decide +kernel)⟩
theorem lw_p9 : lw_okq (⟨"GasLedger$Machine", "canEnter", "(I)Z"⟩, 6) := ⟨⟨by decide +kernel, by decide +kernel⟩, List.mem_of_getElem? (i := 20) (by decide +kernel), List.mem_of_getElem? (i := 389) (by decide +kernel), List.mem_of_getElem? (i := 390) (by decide +kernel)⟩
theorem lw_p10 : lw_okq (⟨"GasLedger$Machine", "pushNoFrame", "(LGasLedger$Frame;)V"⟩, 6) := ⟨⟨by decide +kernel, by decide +kernel⟩, List.mem_of_getElem? (i := 20) (by decide +kernel), List.mem_of_getElem? (i := 394) (by decide +kernel), List.mem_of_getElem? (i := 395) (by decide +kernel)⟩
theorem lw_p11 : lw_okq (⟨"GasLedger$Machine", "takeGas", "(LGasLedger$Frame;I)I"⟩, 6) := ⟨⟨by decide +kernel, by decide +kernel⟩, List.mem_of_getElem? (i := 20) (by decide +kernel), List.mem_of_getElem? (i := 402) (by decide +kernel), List.mem_of_getElem? (i := 403) (by decide +kernel)⟩
theorem lw_p12 : lw_okq (⟨"GasLedger$Machine", "delegate", "(LGasLedger$Frame;)V"⟩, 6) := ⟨⟨by decide +kernel, by decide +kernel⟩, List.mem_of_getElem? (i := 20) (by decide +kernel), List.mem_of_getElem? (i := 406) (by decide +kernel), List.mem_of_getElem? (i := 407) (by decide +kernel)⟩
theorem lw_p13 : lw_okq (⟨"GasLedger$Machine", "create", "(LGasLedger$Frame;)V"⟩, 6) := ⟨⟨by decide +kernel, by decide +kernel⟩, List.mem_of_getElem? (i := 20) (by decide +kernel), List.mem_of_getElem? (i := 410) (by decide +kernel), List.mem_of_getElem? (i := 411) (by decide +kernel)⟩
theorem lw_p14 : lw_okq (⟨"GasLedger$Accounts", "filledSlots", "(I)I"⟩, 6) := ⟨⟨by decide +kernel, by decide +kernel⟩, List.mem_of_getElem? (i := 26) (by decide +kernel), List.mem_of_getElem? (i := 422) (by decide +kernel), List.mem_of_getElem? (i := 423) (by decide +kernel)⟩
theorem lw_p15 : lw_okq (⟨"GasLedger$Machine", "endSelf", "(LGasLedger$Frame;)V"⟩, 6) := ⟨⟨by decide +kernel, by decide +kernel⟩, List.mem_of_getElem? (i := 20) (by decide +kernel), List.mem_of_getElem? (i := 435) (by decide +kernel), List.mem_of_getElem? (i := 436) (by decide +kernel)⟩
def lw_privs_1 : List (MethodName × Nat) := [(⟨"GasLedger", "refusalOf", "(IIIIII)I"⟩, 14), (⟨"GasLedger", "perform", "(IIIIII)I"⟩, 14), (⟨"GasLedger$Machine", "enter", "(IIIIII)V"⟩, 6), (⟨"GasLedger$Machine", "step", "(LGasLedger$Frame;)V"⟩, 6), (⟨"GasLedger$Machine", "priceOf", "(LGasLedger$Frame;I)I"⟩, 6), (⟨"GasLedger$Machine", "jump", "(LGasLedger$Frame;I)V"⟩, 6), (⟨"GasLedger$Machine", "jumpIf", "(LGasLedger$Frame;)V"⟩, 6), (⟨"GasLedger$Machine", "store", "(LGasLedger$Frame;)V"⟩, 6), (⟨"GasLedger$Machine", "callOther", "(LGasLedger$Frame;)V"⟩, 6), (⟨"GasLedger$Machine", "canEnter", "(I)Z"⟩, 6), (⟨"GasLedger$Machine", "pushNoFrame", "(LGasLedger$Frame;)V"⟩, 6), (⟨"GasLedger$Machine", "takeGas", "(LGasLedger$Frame;I)I"⟩, 6), (⟨"GasLedger$Machine", "delegate", "(LGasLedger$Frame;)V"⟩, 6), (⟨"GasLedger$Machine", "create", "(LGasLedger$Frame;)V"⟩, 6), (⟨"GasLedger$Accounts", "filledSlots", "(I)I"⟩, 6), (⟨"GasLedger$Machine", "endSelf", "(LGasLedger$Frame;)V"⟩, 6)]
theorem lw_r1 : ∀ q ∈ lw_privs_1, lw_okq q := List.forall_mem_cons.mpr ⟨lw_p0, List.forall_mem_cons.mpr ⟨lw_p1, List.forall_mem_cons.mpr ⟨lw_p2, List.forall_mem_cons.mpr ⟨lw_p3, List.forall_mem_cons.mpr ⟨lw_p4, List.forall_mem_cons.mpr ⟨lw_p5, List.forall_mem_cons.mpr ⟨lw_p6, List.forall_mem_cons.mpr ⟨lw_p7, List.forall_mem_cons.mpr ⟨lw_p8, List.forall_mem_cons.mpr ⟨lw_p9, List.forall_mem_cons.mpr ⟨lw_p10, List.forall_mem_cons.mpr ⟨lw_p11, List.forall_mem_cons.mpr ⟨lw_p12, List.forall_mem_cons.mpr ⟨lw_p13, List.forall_mem_cons.mpr ⟨lw_p14, List.forall_mem_cons.mpr ⟨lw_p15, fun _ h => absurd h List.not_mem_nil⟩⟩⟩⟩⟩⟩⟩⟩⟩⟩⟩⟩⟩⟩⟩⟩
theorem lw_p16 : lw_okq (⟨"GasLedger$Machine", "resultOf", "(LGasLedger$Frame;II)I"⟩, 6) := ⟨⟨by decide +kernel, by decide +kernel⟩, List.mem_of_getElem? (i := 20) (by decide +kernel), List.mem_of_getElem? (i := 439) (by decide +kernel), List.mem_of_getElem? (i := 440) (by decide +kernel)⟩
theorem lw_p17 : lw_okq (⟨"GasLedger$Machine", "leave", "(LGasLedger$Frame;)V"⟩, 6) := ⟨⟨by decide +kernel, by decide +kernel⟩, List.mem_of_getElem? (i := 20) (by decide +kernel), List.mem_of_getElem? (i := 450) (by decide +kernel), List.mem_of_getElem? (i := 451) (by decide +kernel)⟩
theorem lw_p18 : lw_okq (⟨"GasLedger$Machine", "undo", "(LGasLedger$Frame;)V"⟩, 6) := ⟨⟨by decide +kernel, by decide +kernel⟩, List.mem_of_getElem? (i := 20) (by decide +kernel), List.mem_of_getElem? (i := 454) (by decide +kernel), List.mem_of_getElem? (i := 455) (by decide +kernel)⟩
theorem lw_p19 : lw_okq (⟨"GasLedger$Accounts", "codeNumber", "(I)I"⟩, 6) := ⟨⟨by decide +kernel, by decide +kernel⟩, List.mem_of_getElem? (i := 26) (by decide +kernel), List.mem_of_getElem? (i := 505) (by decide +kernel), List.mem_of_getElem? (i := 506) (by decide +kernel)⟩
theorem lw_p20 : lw_okq (⟨"GasLedgerModel", "valueOf", "(I)I"⟩, 39) := ⟨⟨by decide +kernel, by decide +kernel⟩, List.mem_of_getElem? (i := 553) (by decide +kernel), List.mem_of_getElem? (i := 698) (by decide +kernel), List.mem_of_getElem? (i := 699) (by decide +kernel)⟩
theorem lw_p21 : lw_okq (⟨"GasLedgerModel", "slotsRoot", "(I)I"⟩, 39) := ⟨⟨by decide +kernel, by decide +kernel⟩, List.mem_of_getElem? (i := 553) (by decide +kernel), List.mem_of_getElem? (i := 706) (by decide +kernel), List.mem_of_getElem? (i := 707) (by decide +kernel)⟩
theorem lw_p22 : lw_okq (⟨"GasLedgerModel", "map", "(I)I"⟩, 39) := ⟨⟨by decide +kernel, by decide +kernel⟩, List.mem_of_getElem? (i := 553) (by decide +kernel), List.mem_of_getElem? (i := 710) (by decide +kernel), List.mem_of_getElem? (i := 711) (by decide +kernel)⟩
theorem lw_p23 : lw_okq (⟨"GasLedgerModel", "part", "(III)I"⟩, 39) := ⟨⟨by decide +kernel, by decide +kernel⟩, List.mem_of_getElem? (i := 553) (by decide +kernel), List.mem_of_getElem? (i := 714) (by decide +kernel), List.mem_of_getElem? (i := 715) (by decide +kernel)⟩
theorem lw_p24 : lw_okq (⟨"GasLedgerModel", "empty", "(I)Z"⟩, 39) := ⟨⟨by decide +kernel, by decide +kernel⟩, List.mem_of_getElem? (i := 553) (by decide +kernel), List.mem_of_getElem? (i := 718) (by decide +kernel), List.mem_of_getElem? (i := 719) (by decide +kernel)⟩
theorem lw_p25 : lw_okq (⟨"GasLedgerModel", "transact", "(IIIIIII)I"⟩, 39) := ⟨⟨by decide +kernel, by decide +kernel⟩, List.mem_of_getElem? (i := 553) (by decide +kernel), List.mem_of_getElem? (i := 730) (by decide +kernel), List.mem_of_getElem? (i := 731) (by decide +kernel)⟩
theorem lw_p26 : lw_okq (⟨"GasLedgerModel", "enter", "(IIIIII)V"⟩, 39) := ⟨⟨by decide +kernel, by decide +kernel⟩, List.mem_of_getElem? (i := 553) (by decide +kernel), List.mem_of_getElem? (i := 734) (by decide +kernel), List.mem_of_getElem? (i := 735) (by decide +kernel)⟩
theorem lw_p27 : lw_okq (⟨"GasLedgerModel", "give", "(III)V"⟩, 39) := ⟨⟨by decide +kernel, by decide +kernel⟩, List.mem_of_getElem? (i := 553) (by decide +kernel), List.mem_of_getElem? (i := 738) (by decide +kernel), List.mem_of_getElem? (i := 739) (by decide +kernel)⟩
theorem lw_p28 : lw_okq (⟨"GasLedgerModel", "step", "()V"⟩, 39) := ⟨⟨by decide +kernel, by decide +kernel⟩, List.mem_of_getElem? (i := 553) (by decide +kernel), List.mem_of_getElem? (i := 743) (by decide +kernel), List.mem_of_getElem? (i := 744) (by decide +kernel)⟩
theorem lw_p29 : lw_okq (⟨"GasLedgerModel", "leave", "(ZII)V"⟩, 39) := ⟨⟨by decide +kernel, by decide +kernel⟩, List.mem_of_getElem? (i := 553) (by decide +kernel), List.mem_of_getElem? (i := 747) (by decide +kernel), List.mem_of_getElem? (i := 748) (by decide +kernel)⟩
theorem lw_p30 : lw_okq (⟨"GasLedgerModel", "push", "(I)V"⟩, 39) := ⟨⟨by decide +kernel, by decide +kernel⟩, List.mem_of_getElem? (i := 553) (by decide +kernel), List.mem_of_getElem? (i := 751) (by decide +kernel), List.mem_of_getElem? (i := 752) (by decide +kernel)⟩
theorem lw_p31 : lw_okq (⟨"GasLedgerModel", "cost", "(I)I"⟩, 39) := ⟨⟨by decide +kernel, by decide +kernel⟩, List.mem_of_getElem? (i := 553) (by decide +kernel), List.mem_of_getElem? (i := 761) (by decide +kernel), List.mem_of_getElem? (i := 762) (by decide +kernel)⟩
def lw_privs_2 : List (MethodName × Nat) := [(⟨"GasLedger$Machine", "resultOf", "(LGasLedger$Frame;II)I"⟩, 6), (⟨"GasLedger$Machine", "leave", "(LGasLedger$Frame;)V"⟩, 6), (⟨"GasLedger$Machine", "undo", "(LGasLedger$Frame;)V"⟩, 6), (⟨"GasLedger$Accounts", "codeNumber", "(I)I"⟩, 6), (⟨"GasLedgerModel", "valueOf", "(I)I"⟩, 39), (⟨"GasLedgerModel", "slotsRoot", "(I)I"⟩, 39), (⟨"GasLedgerModel", "map", "(I)I"⟩, 39), (⟨"GasLedgerModel", "part", "(III)I"⟩, 39), (⟨"GasLedgerModel", "empty", "(I)Z"⟩, 39), (⟨"GasLedgerModel", "transact", "(IIIIIII)I"⟩, 39), (⟨"GasLedgerModel", "enter", "(IIIIII)V"⟩, 39), (⟨"GasLedgerModel", "give", "(III)V"⟩, 39), (⟨"GasLedgerModel", "step", "()V"⟩, 39), (⟨"GasLedgerModel", "leave", "(ZII)V"⟩, 39), (⟨"GasLedgerModel", "push", "(I)V"⟩, 39), (⟨"GasLedgerModel", "cost", "(I)I"⟩, 39)]
theorem lw_r2 : ∀ q ∈ lw_privs_2, lw_okq q := List.forall_mem_cons.mpr ⟨lw_p16, List.forall_mem_cons.mpr ⟨lw_p17, List.forall_mem_cons.mpr ⟨lw_p18, List.forall_mem_cons.mpr ⟨lw_p19, List.forall_mem_cons.mpr ⟨lw_p20, List.forall_mem_cons.mpr ⟨lw_p21, List.forall_mem_cons.mpr ⟨lw_p22, List.forall_mem_cons.mpr ⟨lw_p23, List.forall_mem_cons.mpr ⟨lw_p24, List.forall_mem_cons.mpr ⟨lw_p25, List.forall_mem_cons.mpr ⟨lw_p26, List.forall_mem_cons.mpr ⟨lw_p27, List.forall_mem_cons.mpr ⟨lw_p28, List.forall_mem_cons.mpr ⟨lw_p29, List.forall_mem_cons.mpr ⟨lw_p30, List.forall_mem_cons.mpr ⟨lw_p31, fun _ h => absurd h List.not_mem_nil⟩⟩⟩⟩⟩⟩⟩⟩⟩⟩⟩⟩⟩⟩⟩⟩
theorem lw_p32 : lw_okq (⟨"GasLedgerModel", "peek", "(I)I"⟩, 39) := ⟨⟨by decide +kernel, by decide +kernel⟩, List.mem_of_getElem? (i := 553) (by decide +kernel), List.mem_of_getElem? (i := 765) (by decide +kernel), List.mem_of_getElem? (i := 766) (by decide +kernel)⟩
theorem lw_p33 : lw_okq (⟨"GasLedgerModel", "fails", "(II)Z"⟩, 39) := ⟨⟨by decide +kernel, by decide +kernel⟩, List.mem_of_getElem? (i := 553) (by decide +kernel), List.mem_of_getElem? (i := 769) (by decide +kernel), List.mem_of_getElem? (i := 770) (by decide +kernel)⟩
theorem lw_p34 : lw_okq (⟨"GasLedgerModel", "shuffle", "(II)V"⟩, 39) := ⟨⟨by decide +kernel, by decide +kernel⟩, List.mem_of_getElem? (i := 553) (by decide +kernel), List.mem_of_getElem? (i := 773) (by decide +kernel), List.mem_of_getElem? (i := 774) (by decide +kernel)⟩
theorem lw_p35 : lw_okq (⟨"GasLedgerModel", "pop", "()I"⟩, 39) := ⟨⟨by decide +kernel, by decide +kernel⟩, List.mem_of_getElem? (i := 553) (by decide +kernel), List.mem_of_getElem? (i := 777) (by decide +kernel), List.mem_of_getElem? (i := 778) (by decide +kernel)⟩
theorem lw_p36 : lw_okq (⟨"GasLedgerModel", "reckon", "(I)V"⟩, 39) := ⟨⟨by decide +kernel, by decide +kernel⟩, List.mem_of_getElem? (i := 553) (by decide +kernel), List.mem_of_getElem? (i := 781) (by decide +kernel), List.mem_of_getElem? (i := 782) (by decide +kernel)⟩
theorem lw_p37 : lw_okq (⟨"GasLedgerModel", "hold", "(I)V"⟩, 39) := ⟨⟨by decide +kernel, by decide +kernel⟩, List.mem_of_getElem? (i := 553) (by decide +kernel), List.mem_of_getElem? (i := 785) (by decide +kernel), List.mem_of_getElem? (i := 786) (by decide +kernel)⟩
theorem lw_p38 : lw_okq (⟨"GasLedgerModel", "act", "(I)V"⟩, 39) := ⟨⟨by decide +kernel, by decide +kernel⟩, List.mem_of_getElem? (i := 553) (by decide +kernel), List.mem_of_getElem? (i := 789) (by decide +kernel), List.mem_of_getElem? (i := 790) (by decide +kernel)⟩
theorem lw_p39 : lw_okq (⟨"GasLedgerModel", "call", "(Z)V"⟩, 39) := ⟨⟨by decide +kernel, by decide +kernel⟩, List.mem_of_getElem? (i := 553) (by decide +kernel), List.mem_of_getElem? (i := 793) (by decide +kernel), List.mem_of_getElem? (i := 794) (by decide +kernel)⟩
theorem lw_p40 : lw_okq (⟨"GasLedgerModel", "create", "()V"⟩, 39) := ⟨⟨by decide +kernel, by decide +kernel⟩, List.mem_of_getElem? (i := 553) (by decide +kernel), List.mem_of_getElem? (i := 797) (by decide +kernel), List.mem_of_getElem? (i := 798) (by decide +kernel)⟩
theorem lw_p41 : lw_okq (⟨"GasLedgerModel", "wipe", "(I)V"⟩, 39) := ⟨⟨by decide +kernel, by decide +kernel⟩, List.mem_of_getElem? (i := 553) (by decide +kernel), List.mem_of_getElem? (i := 801) (by decide +kernel), List.mem_of_getElem? (i := 802) (by decide +kernel)⟩
theorem lw_p42 : lw_okq (⟨"GasLedgerModel", "bloom", "()I"⟩, 39) := ⟨⟨by decide +kernel, by decide +kernel⟩, List.mem_of_getElem? (i := 553) (by decide +kernel), List.mem_of_getElem? (i := 834) (by decide +kernel), List.mem_of_getElem? (i := 835) (by decide +kernel)⟩
def lw_privs_3 : List (MethodName × Nat) := [(⟨"GasLedgerModel", "peek", "(I)I"⟩, 39), (⟨"GasLedgerModel", "fails", "(II)Z"⟩, 39), (⟨"GasLedgerModel", "shuffle", "(II)V"⟩, 39), (⟨"GasLedgerModel", "pop", "()I"⟩, 39), (⟨"GasLedgerModel", "reckon", "(I)V"⟩, 39), (⟨"GasLedgerModel", "hold", "(I)V"⟩, 39), (⟨"GasLedgerModel", "act", "(I)V"⟩, 39), (⟨"GasLedgerModel", "call", "(Z)V"⟩, 39), (⟨"GasLedgerModel", "create", "()V"⟩, 39), (⟨"GasLedgerModel", "wipe", "(I)V"⟩, 39), (⟨"GasLedgerModel", "bloom", "()I"⟩, 39)]
theorem lw_r3 : ∀ q ∈ lw_privs_3, lw_okq q := List.forall_mem_cons.mpr ⟨lw_p32, List.forall_mem_cons.mpr ⟨lw_p33, List.forall_mem_cons.mpr ⟨lw_p34, List.forall_mem_cons.mpr ⟨lw_p35, List.forall_mem_cons.mpr ⟨lw_p36, List.forall_mem_cons.mpr ⟨lw_p37, List.forall_mem_cons.mpr ⟨lw_p38, List.forall_mem_cons.mpr ⟨lw_p39, List.forall_mem_cons.mpr ⟨lw_p40, List.forall_mem_cons.mpr ⟨lw_p41, List.forall_mem_cons.mpr ⟨lw_p42, fun _ h => absurd h List.not_mem_nil⟩⟩⟩⟩⟩⟩⟩⟩⟩⟩⟩
def lw_privs : List (MethodName × Nat) := lw_privs_1 ++ (lw_privs_2 ++ (lw_privs_3))
def lw_tbl : List Cond := k2_sels lw_privs ++ tables_1
theorem lw_privs_ok : ∀ q ∈ lw_privs, lw_okq q := by
  show ∀ q ∈ lw_privs_1 ++ (lw_privs_2 ++ (lw_privs_3)), lw_okq q
  exact List.forall_mem_append.mpr ⟨lw_r1, List.forall_mem_append.mpr ⟨lw_r2, lw_r3⟩⟩
end
section
/-! Worlds that lie side by side: cell k at address b + k, and what the cells hold as a memory of ints V k p. -/
def gx_w (b N : Nat) (w : Nat → va_E) : va_W := (List.range N).map fun k => (b + k, w k)
theorem gx_at {b N : Nat} {w : Nat → va_E} {k : Nat} {e : va_E} (hk : k < N) (he : w k = e) : (gx_w b N w)[k]? = some (b + k, e) := by
  subst he
  simp [gx_w, hk]
theorem gx_get {b N : Nat} {w : Nat → va_E} {k : Nat} {q : Nat × va_E} (h : (gx_w b N w)[k]? = some q) : k < N ∧ q = (b + k, w k) := by
  have hk : k < N := by
    have h1 := (List.getElem?_eq_some_iff.mp h).1
    simpa [gx_w] using h1
  exact ⟨hk, Option.some.inj (h.symm.trans (gx_at (b := b) (w := w) hk rfl))⟩
theorem gx_set {b N : Nat} {w : Nat → va_E} {k : Nat} (e : va_E) : (gx_w b N w).set k (b + k, e) = gx_w b N (va_up w k e) := by
  apply List.ext_getElem?
  intro j
  by_cases hj : j < N
  · rw [gx_at (w := va_up w k e) hj rfl, List.getElem?_set]
    by_cases hkj : k = j
    · subst hkj
      simp [gx_w, hj, va_up]
    · rw [if_neg hkj, gx_at (w := w) hj rfl]
      simp [va_up, Ne.symm hkj]
  · have h1 : ((gx_w b N w).set k (b + k, e)).length ≤ j := by simp [gx_w]; omega
    have h2 : (gx_w b N (va_up w k e)).length ≤ j := by simp [gx_w]; omega
    rw [List.getElem?_eq_none h1, List.getElem?_eq_none h2]
def gx_A (b N : Nat) : Nat → Prop := fun q => b ≤ q ∧ q < b + N
theorem gx_D {b N : Nat} {w : Nat → va_E} : va_D (gx_A b N) (gx_w b N w) := by
  constructor
  · intro i j x y hx hy hxy
    obtain ⟨-, rfl⟩ := gx_get hx
    obtain ⟨-, rfl⟩ := gx_get hy
    exact Nat.add_left_cancel hxy
  · intro k x hx
    obtain ⟨hk, rfl⟩ := gx_get hx
    exact ⟨Nat.le_add_right _ _, Nat.add_lt_add_left hk _⟩
/-- a memory of ints: place p of cell k -/
abbrev gx_M : Type := Nat → Nat → Int32
def gx_v (sh : Nat → (Nat → Int32) → va_E) (V : gx_M) : Nat → va_E := fun k => sh k (V k)
def gx_u (V : gx_M) (k p : Nat) (x : Int32) : gx_M := va_up V k (upd (V k) p x)
theorem gx_vset {sh : Nat → (Nat → Int32) → va_E} {V : gx_M} {k : Nat} {f : Nat → Int32} : va_up (gx_v sh V) k (sh k f) = gx_v sh (va_up V k f) := by
  funext j
  unfold va_up gx_v
  by_cases h : j = k
  · subst h; simp
  · simp [h]
theorem gx_us (V : gx_M) (k p : Nat) (x : Int32) : gx_u V k p x k p = x := by simp [gx_u, va_up, upd]
theorem gx_up {V : gx_M} {k p p' : Nat} {x : Int32} (h : p' ≠ p) : gx_u V k p x k p' = V k p' := by simp [gx_u, va_up, upd, h]
theorem gx_uk {V : gx_M} {k k' p p' : Nat} {x : Int32} (h : k' ≠ k) : gx_u V k p x k' p' = V k' p' := by simp [gx_u, va_up, h]
theorem gx_uK {V : gx_M} {k k' p : Nat} {x : Int32} (h : k' ≠ k) : gx_u V k p x k' = V k' := by simp [gx_u, va_up, h]
/-- what a method answers and leaves: r, and the memory V -/
def gx_Q (D : va_G) (cl : List vw_C) (b N : Nat) (sh : Nat → (Nat → Int32) → va_E) (r : Option Value) (V : gx_M) : Array Value → State → Outcome → State → Prop := fun _ st oc t =>
  oc = .returned r ∧ va_P D cl (gx_w b N (gx_v sh V)) t.heap ∧ va_F (gx_A b N) st t
/-- a contract: at arguments av and memory V the method answers r and leaves V'; X: what stands outside (statics) -/
def gx_C (l : Launch) (y : MethodName) (ws : List Cond) (rm : Room) (D : va_G) (cl : List vw_C) (tys : List (ClassId × FieldType)) (b N : Nat) (sh : Nat → (Nat → Int32) → va_E) (X : State → Prop) (av : List Value) (V : gx_M) (r : Option Value) (V' : gx_M) : Prop :=
  Met l y ws rm (va_Pc av (fun U => va_P D cl (gx_w b N (gx_v sh V)) U.heap ∧ va_K D cl tys U ∧ X U)) (gx_Q D cl b N sh r V') 0 0 (gx_A b N)
/-- what stands outside stays, and no frame is seen in it -/
def gx_X (b N : Nat) (X : State → Prop) : Prop := (∀ (s U : State) (H : Heap) (locs : List Loc), X s → va_S (gx_A b N) s.heap H locs → U.heap = H → s.vm.Alike U.vm → X U) ∧ ∀ (a : Array Value) (U : State) (g : JFrame) (mk : MethodId), X U → X (U.calling g mk a)
section GX
variable {p : Program} {l : Launch} {e : Env} {R : Room} {s : State} {m : MethodId} {args : Array Value} {below : List Frame} {meth : Method} {c : Code} {H : Heap} {locs : List Loc} {cells slots : Nat} {Q : State → Prop}
variable {cc : ByteArray} {pc : Nat} {ls : Array Slot} {rest st0 : List Value} {D : va_G} {cl : List vw_C} {tys : List (ClassId × FieldType)} {H0 : Heap} {b N : Nat} {sh : Nat → (Nat → Int32) → va_E} {V V' V2 : gx_M} {X : State → Prop}
theorem gx_start {y : MethodName} {ws ws' : List Cond} {rm : Room} {av : List Value} {r : Option Value} {maxL : Nat} {ret : Option FieldType}
    (hy : plainName y.cls = true) (hw : ws = Cond.code y cc maxL ret :: ws') (hlen : (lg_sl av).length ≤ maxL)
    (body : ∀ (p : Program) (e : Env) (s : State) (m : MethodId) (args : Array Value) (below : List Frame) (meth : Method) (c : Code) (ls : Array Slot), p.tables.exec = Jvm.exec → c.code = cc → meth.sig.returnType = ret → (∀ w ∈ ws, w.before args s = true) → s.vm.findClass y.cls = some m.cls → meth.locks = false → c.maxLocals = maxL → lv_has ls maxL (lv_args 0 av) → va_P D cl (gx_w b N (gx_v sh V)) s.heap → va_K D cl tys s → X s → va_S (gx_A b N) s.heap s.heap [] →
      W p l e (headSpec ws rm).room s m args below meth c s.heap [] 0 0 (MQ below (gx_Q D cl b N sh r V') args s 0 0 (gx_A b N)) (F0 m 0 ls [])) : gx_C l y ws rm D cl tys b N sh X av V r V' := by
  refine Met.ofW (cc := cc) (maxL := maxL) (ret := ret) hy hw ?_
  intro p e s m args below meth c s₁ B hml hv
  obtain ⟨rfl, hP, hK, hX⟩ := hv
  rw [lg_entry_eq]
  exact body p e s m _ below meth c _ B.exec B.bytes B.returns (atoms_spec (ws := ws) B.pre) (findClass_of_methodNamed B.named) B.notSynchronized hml (lv_entry av hlen) hP hK hX va_S.rf
theorem gx_iret {free : Addr → Prop} {v : Int32} {r : Option Value} (hexec : p.tables.exec = Jvm.exec) (hb : c.code = cc) (hr : meth.sig.returnType = some .int) (hlk : meth.locks = false) (hP : va_P D cl (gx_w b N (gx_v sh V)) H) (hS : va_S (gx_A b N) s.heap H locs) (hdg : decode cc pc = .ok (.ireturn, 1)) (hv : some (.int v) = r) (hV : V = V') :
    W p l e R s m args below meth c H locs cells slots (MQ below (gx_Q D cl b N sh r V') args s cells slots (gx_A b N)) (F0 m pc ls [.int v]) := by
  subst hv; subst hV
  exact W.iret hexec hb hr (fun t ht _ => ⟨rfl, by rw [ht]; exact hP, hS.F ht⟩) hS.2.2 hdg
theorem gx_zret {free : Addr → Prop} {v : Int32} {r : Option Value} (hexec : p.tables.exec = Jvm.exec) (hb : c.code = cc) (hr : meth.sig.returnType = some .boolean) (hlk : meth.locks = false) (hP : va_P D cl (gx_w b N (gx_v sh V)) H) (hS : va_S (gx_A b N) s.heap H locs) (hdg : decode cc pc = .ok (.ireturn, 1)) (hn : narrow .boolean (.int v) = .int v) (hv : some (.int v) = r) (hV : V = V') :
    W p l e R s m args below meth c H locs cells slots (MQ below (gx_Q D cl b N sh r V') args s cells slots (gx_A b N)) (F0 m pc ls [.int v]) := by
  subst hv; subst hV
  exact W.zret hexec hb hr hn (fun t ht _ => ⟨rfl, by rw [ht]; exact hP, hS.F ht⟩) hS.2.2 hdg
theorem gx_vret {r : Option Value} (hexec : p.tables.exec = Jvm.exec) (hb : c.code = cc) (hr : meth.sig.returnType = none) (hlk : meth.locks = false) (hP : va_P D cl (gx_w b N (gx_v sh V)) H) (hS : va_S (gx_A b N) s.heap H locs) (hdg : decode cc pc = .ok (.return_, 1)) (hv : none = r) (hV : V = V') :
    W p l e R s m args below meth c H locs cells slots (MQ below (gx_Q D cl b N sh r V') args s cells slots (gx_A b N)) (F0 m pc ls []) := by
  subst hv; subst hV
  exact W.vret hexec hb hr (fun t ht _ => ⟨rfl, by rw [ht]; exact hP, hS.F ht⟩) hS.2.2 hdg
theorem gx_lret {v : Int64} {r : Option Value} (hexec : p.tables.exec = Jvm.exec) (hb : c.code = cc) (hr : meth.sig.returnType = some .long) (hlk : meth.locks = false) (hP : va_P D cl (gx_w b N (gx_v sh V)) H) (hS : va_S (gx_A b N) s.heap H locs) (hdg : decode cc pc = .ok (.lreturn, 1)) (hv : some (.long v) = r) (hV : V = V') :
    W p l e R s m args below meth c H locs cells slots (MQ below (gx_Q D cl b N sh r V') args s cells slots (gx_A b N)) (F0 m pc ls [.long v]) := by
  subst hv; subst hV
  exact W.lret hexec hb hr (fun t ht _ => ⟨rfl, by rw [ht]; exact hP, hS.F ht⟩) hS.2.2 hdg
theorem gx_put (hexec : p.tables.exec = Jvm.exec) (hb : c.code = cc) {own ref C : String} {T : u_T} {NF ci index : Nat} {Ts : List Cond} (hts : ∀ w ∈ Ts, w.before args s = true) (hin : ∀ w ∈ u_ws C T NF, w ∈ Ts) (ty0 : Nat → FieldType) (hty : ∀ k, k < NF → parseFieldDescriptor (T k).2.2.1 = some (ty0 k)) (hnm : ∀ a, a < NF → ∀ b, b < NF → a ≠ b → (T a).2.1 ≠ (T b).2.1) (hown : s.vm.findClass own = some m.cls) (hK : va_K D cl tys s) (hP : va_P D cl (gx_w b N (gx_v sh V)) H) (hS : va_S (gx_A b N) H0 H locs) (k0 : Nat) (hk0 : k0 < N) {fs : List Value} (he : sh k0 (V k0) = .inr (ci, fs)) (hc : cl[ci]? = some (C, T, NF)) (k : Nat) (hk : k < NF) (hlink : (Cond.fieldLink own index ref (T k).2.1 (T k).2.2.1).before args s = true) (hsame : ∀ x, s.fieldFound? (T k).1 (T k).2.1 (T k).2.2.1 = some x → s.fieldFound? ref (T k).2.1 (T k).2.2.1 = some x) (hfin : (T k).2.2.2 = false) {ty : FieldType} {x : Int32} (hd : parseFieldDescriptor (T k).2.2.1 = some ty) (hn : narrow ty (.int x) = .int x) (hfit : fits ty (.int x) = true) (hl : k < fs.length) (q : Nat) (hu : sh k0 (upd (V k0) q x) = .inr (ci, fs.set k (.int x)))
    (hdg : decode cc pc = .ok (.putfield index, 3)) (kk : ∀ (H1 : Heap) (locs1 : List Loc), va_P D cl (gx_w b N (gx_v sh (gx_u V k0 q x))) H1 → va_S (gx_A b N) H0 H1 locs1 → W p l e R s m args below meth c H1 locs1 cells slots Q (F0 m (pc + 3) ls rest)) : W p l e R s m args below meth c H locs cells slots Q (F0 m pc ls (.int x :: .ref (b + k0) :: rest)) := by
  refine va_put hexec hb hts hin ty0 hty hnm hown hK hP gx_D hS k0 (gx_at hk0 he) hc k hk hlink hsame hfin hd hn hfit hl hdg (fun H1 locs1 hP1 _ hS1 => kk H1 locs1 ?_ hS1)
  rw [gx_set, ← hu, gx_vset] at hP1
  exact hP1
theorem gx_ald (hexec : p.tables.exec = Jvm.exec) (hb : c.code = cc) (hK : va_K D cl tys s) (hP : va_P D cl (gx_w b N (gx_v sh V)) H) (k0 t0 : Nat) (hk0 : k0 < N) {cA : ClassId} {n : Nat} (he : ∀ f, sh k0 f = .inl (cA, n, .inl f)) (ht : tys[t0]? = some (cA, .int)) {i : Int32} (j : Nat) (hi : i = nI j) (hj : j < n) (hn : n < 2 ^ 31) (hdg : decode cc pc = .ok (.iaload, 1))
    (kk : W p l e R s m args below meth c H locs cells slots Q (F0 m (pc + 1) ls (.int (V k0 j) :: rest))) : W p l e R s m args below meth c H locs cells slots Q (F0 m pc ls (.int i :: .ref (b + k0) :: rest)) := by
  subst hi
  refine va_iald hexec hb hK hP k0 t0 (gx_at hk0 (he _)) ht (vp_in_nI hj hn) hdg ?_
  rw [nI_clamp (by omega)]
  exact kk
theorem gx_ast (hexec : p.tables.exec = Jvm.exec) (hb : c.code = cc) (hK : va_K D cl tys s) (hP : va_P D cl (gx_w b N (gx_v sh V)) H) (hS : va_S (gx_A b N) H0 H locs) (k0 t0 : Nat) (hk0 : k0 < N) {cA : ClassId} {n : Nat} (he : ∀ f, sh k0 f = .inl (cA, n, .inl f)) (ht : tys[t0]? = some (cA, .int)) {i x : Int32} (j : Nat) (hi : i = nI j) (hj : j < n) (hn : n < 2 ^ 31) (hdg : decode cc pc = .ok (.iastore, 1))
    (kk : ∀ (H1 : Heap) (locs1 : List Loc), va_P D cl (gx_w b N (gx_v sh (gx_u V k0 j x))) H1 → va_S (gx_A b N) H0 H1 locs1 → W p l e R s m args below meth c H1 locs1 cells slots Q (F0 m (pc + 1) ls rest)) : W p l e R s m args below meth c H locs cells slots Q (F0 m pc ls (.int x :: .int i :: .ref (b + k0) :: rest)) := by
  subst hi
  refine va_iast hexec hb hK hP gx_D hS k0 t0 (gx_at hk0 (he _)) ht (vp_in_nI hj hn) hdg (fun H1 locs1 hP1 _ hS1 => kk H1 locs1 ?_ hS1)
  rw [nI_clamp (by omega), gx_set, ← he, gx_vset] at hP1
  exact hP1
theorem gx_call {r : Option Value} {A0 : Nat → Prop} {a : Array Value} (hr : va_Run p l e R s m args below meth c H locs cells slots 0 0 (F0 m pc ls st0) rest (gx_Q D cl b N sh r V' a) (gx_A b N)) (hS : va_S A0 H0 H locs) (hA : ∀ q, gx_A b N q → A0 q)
    (kk : ∀ (H1 : Heap) (locs1 : List Loc), va_P D cl (gx_w b N (gx_v sh V')) H1 → va_S A0 H0 H1 locs1 → H.size ≤ H1.size → (∀ q : Nat, q < H.size → ¬ gx_A b N q → H1[q]? = H[q]?) → W p l e R s m args below meth c H1 locs1 cells slots Q (F0 m (pc + 3) ls (r.toList ++ rest))) : W p l e R s m args below meth c H locs cells slots Q (F0 m pc ls st0) := by
  intro T hT XX
  obtain ⟨v, st₀, t, T', L, h0, X', hL, e1, -, ⟨hv, hp, hz, hk⟩, st⟩ := hr T hT XX
  cases hv
  rw [h0] at hz hk
  rw [← e1] at hp hz hk
  obtain ⟨t2, a1, b1⟩ := kk T'.heap (locs ++ L) hp ⟨Nat.le_trans hS.1 hz, fun q h1 h2 => by rw [hk q (Nat.lt_of_lt_of_le h1 hS.1) (fun z => h2 (hA q z))]; exact hS.2.1 q h1 h2, fun q hq => by
      rcases List.mem_append.mp hq with h | h
      · exact hS.2.2 q h
      · exact hA _ (hL q h)⟩ hz hk T' rfl X'
  exact ⟨t2, st t2 a1, b1⟩
theorem gx_pre {av : List Value} (hX0 : gx_X b N X) (hX : X s) (hK : va_K D cl tys s) (hP : va_P D cl (gx_w b N (gx_v sh V)) H) (hS : va_S (gx_A b N) s.heap H locs) : PreS s H (va_Pc av (fun U => va_P D cl (gx_w b N (gx_v sh V)) U.heap ∧ va_K D cl tys U ∧ X U)) av :=
  ⟨fun a U g mk q => ⟨q.1, q.2.1, va_K.moved (u := U) (U := U.calling g mk a) (Vm.Alike.refl U.vm) q.2.2.1, hX0.2 a U g mk q.2.2.2⟩, fun U hU hW => ⟨rfl, by rw [hU]; exact hP, va_K.moved hW.alike hK, hX0.1 s U H locs hX hS hU hW.alike⟩⟩
theorem gx_preV {k0 ci : Nat} {As fs : List Value} {q : vw_C} (hX0 : gx_X b N X) (hX : X s) (hK : va_K D cl tys s) (hP : va_P D cl (gx_w b N (gx_v sh V)) H) (hS : va_S (gx_A b N) s.heap H locs) (hk0 : k0 < N) (he : sh k0 (V k0) = .inr (ci, fs)) (hc : cl[ci]? = some q) : PreV s H q.1 (b + k0) (va_Pc (.ref (b + k0) :: As) (fun U => va_P D cl (gx_w b N (gx_v sh V)) U.heap ∧ va_K D cl tys U ∧ X U)) As :=
  ⟨(gx_pre hX0 hX hK hP hS).1, va_recv hK hP hc (gx_at hk0 he), (gx_pre hX0 hX hK hP hS).2⟩
end GX
end
